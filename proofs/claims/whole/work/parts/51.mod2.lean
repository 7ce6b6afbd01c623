theorem k_X5_columnBlocks : yX5_columnBlocks.cls = RX5 ∧ yX5_columnBlocks.cls ≠ "java/lang/invoke/MethodHandle" ∧ yX5_columnBlocks.cls ≠ "java/lang/invoke/VarHandle" ∧ (parseMethodDescriptor yX5_columnBlocks.desc).map (fun d => d.parameters.length) = some 3 := by decide +kernel
theorem k_X5_columnBlocksS : yX5_columnBlocks.cls ≠ "java/lang/invoke/MethodHandle" ∧ yX5_columnBlocks.cls ≠ "java/lang/invoke/VarHandle" ∧ (parseMethodDescriptor yX5_columnBlocks.desc).map (fun d => d.parameters.length) = some 3 := k_X5_columnBlocks.2
theorem k_X5_columnsInWay : yX5_columnsInWay.cls = RX5 ∧ yX5_columnsInWay.cls ≠ "java/lang/invoke/MethodHandle" ∧ yX5_columnsInWay.cls ≠ "java/lang/invoke/VarHandle" ∧ (parseMethodDescriptor yX5_columnsInWay.desc).map (fun d => d.parameters.length) = some 3 := by decide +kernel
theorem k_X5_columnsInWayS : yX5_columnsInWay.cls ≠ "java/lang/invoke/MethodHandle" ∧ yX5_columnsInWay.cls ≠ "java/lang/invoke/VarHandle" ∧ (parseMethodDescriptor yX5_columnsInWay.desc).map (fun d => d.parameters.length) = some 3 := k_X5_columnsInWay.2
theorem k_X5_inWay : yX5_inWay.cls = RX5 ∧ yX5_inWay.cls ≠ "java/lang/invoke/MethodHandle" ∧ yX5_inWay.cls ≠ "java/lang/invoke/VarHandle" ∧ (parseMethodDescriptor yX5_inWay.desc).map (fun d => d.parameters.length) = some 2 := by decide +kernel
theorem k_X5_inWayS : yX5_inWay.cls ≠ "java/lang/invoke/MethodHandle" ∧ yX5_inWay.cls ≠ "java/lang/invoke/VarHandle" ∧ (parseMethodDescriptor yX5_inWay.desc).map (fun d => d.parameters.length) = some 2 := k_X5_inWay.2
theorem k_X5_inWayOf : yX5_inWayOf.cls = RX5 ∧ yX5_inWayOf.cls ≠ "java/lang/invoke/MethodHandle" ∧ yX5_inWayOf.cls ≠ "java/lang/invoke/VarHandle" ∧ (parseMethodDescriptor yX5_inWayOf.desc).map (fun d => d.parameters.length) = some 3 := by decide +kernel
theorem k_X5_inWayOfS : yX5_inWayOf.cls ≠ "java/lang/invoke/MethodHandle" ∧ yX5_inWayOf.cls ≠ "java/lang/invoke/VarHandle" ∧ (parseMethodDescriptor yX5_inWayOf.desc).map (fun d => d.parameters.length) = some 3 := k_X5_inWayOf.2
theorem k_X5_isAhead : yX5_isAhead.cls = RX5 ∧ yX5_isAhead.cls ≠ "java/lang/invoke/MethodHandle" ∧ yX5_isAhead.cls ≠ "java/lang/invoke/VarHandle" ∧ (parseMethodDescriptor yX5_isAhead.desc).map (fun d => d.parameters.length) = some 4 := by decide +kernel
theorem k_X5_isAheadS : yX5_isAhead.cls ≠ "java/lang/invoke/MethodHandle" ∧ yX5_isAhead.cls ≠ "java/lang/invoke/VarHandle" ∧ (parseMethodDescriptor yX5_isAhead.desc).map (fun d => d.parameters.length) = some 4 := k_X5_isAhead.2
theorem k_X5_isRow : yX5_isRow.cls = RX5 ∧ yX5_isRow.cls ≠ "java/lang/invoke/MethodHandle" ∧ yX5_isRow.cls ≠ "java/lang/invoke/VarHandle" ∧ (parseMethodDescriptor yX5_isRow.desc).map (fun d => d.parameters.length) = some 1 := by decide +kernel
theorem k_X5_isRowS : yX5_isRow.cls ≠ "java/lang/invoke/MethodHandle" ∧ yX5_isRow.cls ≠ "java/lang/invoke/VarHandle" ∧ (parseMethodDescriptor yX5_isRow.desc).map (fun d => d.parameters.length) = some 1 := k_X5_isRow.2
theorem k_X5_peopleInWay : yX5_peopleInWay.cls = RX5 ∧ yX5_peopleInWay.cls ≠ "java/lang/invoke/MethodHandle" ∧ yX5_peopleInWay.cls ≠ "java/lang/invoke/VarHandle" ∧ (parseMethodDescriptor yX5_peopleInWay.desc).map (fun d => d.parameters.length) = some 2 := by decide +kernel
theorem k_X5_peopleInWayS : yX5_peopleInWay.cls ≠ "java/lang/invoke/MethodHandle" ∧ yX5_peopleInWay.cls ≠ "java/lang/invoke/VarHandle" ∧ (parseMethodDescriptor yX5_peopleInWay.desc).map (fun d => d.parameters.length) = some 2 := k_X5_peopleInWay.2
theorem k_X5_seeingIn : yX5_seeingIn.cls = RX5 ∧ yX5_seeingIn.cls ≠ "java/lang/invoke/MethodHandle" ∧ yX5_seeingIn.cls ≠ "java/lang/invoke/VarHandle" ∧ (parseMethodDescriptor yX5_seeingIn.desc).map (fun d => d.parameters.length) = some 2 := by decide +kernel
theorem k_X5_seeingInS : yX5_seeingIn.cls ≠ "java/lang/invoke/MethodHandle" ∧ yX5_seeingIn.cls ≠ "java/lang/invoke/VarHandle" ∧ (parseMethodDescriptor yX5_seeingIn.desc).map (fun d => d.parameters.length) = some 2 := k_X5_seeingIn.2
theorem k_X5_seeingWithout : yX5_seeingWithout.cls = RX5 ∧ yX5_seeingWithout.cls ≠ "java/lang/invoke/MethodHandle" ∧ yX5_seeingWithout.cls ≠ "java/lang/invoke/VarHandle" ∧ (parseMethodDescriptor yX5_seeingWithout.desc).map (fun d => d.parameters.length) = some 1 := by decide +kernel
theorem k_X5_seeingWithoutS : yX5_seeingWithout.cls ≠ "java/lang/invoke/MethodHandle" ∧ yX5_seeingWithout.cls ≠ "java/lang/invoke/VarHandle" ∧ (parseMethodDescriptor yX5_seeingWithout.desc).map (fun d => d.parameters.length) = some 1 := k_X5_seeingWithout.2
theorem k_X5_sees : yX5_sees.cls = RX5 ∧ yX5_sees.cls ≠ "java/lang/invoke/MethodHandle" ∧ yX5_sees.cls ≠ "java/lang/invoke/VarHandle" ∧ (parseMethodDescriptor yX5_sees.desc).map (fun d => d.parameters.length) = some 2 := by decide +kernel
theorem k_X5_seesS : yX5_sees.cls ≠ "java/lang/invoke/MethodHandle" ∧ yX5_sees.cls ≠ "java/lang/invoke/VarHandle" ∧ (parseMethodDescriptor yX5_sees.desc).map (fun d => d.parameters.length) = some 2 := k_X5_sees.2
theorem k_X5_takenIn : yX5_takenIn.cls = RX5 ∧ yX5_takenIn.cls ≠ "java/lang/invoke/MethodHandle" ∧ yX5_takenIn.cls ≠ "java/lang/invoke/VarHandle" ∧ (parseMethodDescriptor yX5_takenIn.desc).map (fun d => d.parameters.length) = some 1 := by decide +kernel
theorem k_X5_takenInS : yX5_takenIn.cls ≠ "java/lang/invoke/MethodHandle" ∧ yX5_takenIn.cls ≠ "java/lang/invoke/VarHandle" ∧ (parseMethodDescriptor yX5_takenIn.desc).map (fun d => d.parameters.length) = some 1 := k_X5_takenIn.2
theorem k_X5_upwards : yX5_upwards.cls = RX5 ∧ yX5_upwards.cls ≠ "java/lang/invoke/MethodHandle" ∧ yX5_upwards.cls ≠ "java/lang/invoke/VarHandle" ∧ (parseMethodDescriptor yX5_upwards.desc).map (fun d => d.parameters.length) = some 2 := by decide +kernel
theorem k_X5_upwardsS : yX5_upwards.cls ≠ "java/lang/invoke/MethodHandle" ∧ yX5_upwards.cls ≠ "java/lang/invoke/VarHandle" ∧ (parseMethodDescriptor yX5_upwards.desc).map (fun d => d.parameters.length) = some 2 := k_X5_upwards.2
set_option maxRecDepth 20000 in
theorem iX5_columnsInWay_5 : ∀ w ∈ wsX50, w ∈ wsX5_columnsInWay := by decide +kernel
set_option maxHeartbeats 4000000 in
set_option maxRecDepth 100000 in
theorem c_X5_columnsInWay (l : Launch) (D : va_G) (cI cC cH cL : ClassId) (a : Nat → Nat) (z zh tx pa wy : ZZ) (st le th rd nu pt : Int32) (za : Int64) (r0 : Nat) (s0 : Nat) (wo : Int32) (hw : WF z) (hr : r0 < nR z) : Met l yX5_columnsInWay wsX5_columnsInWay ({ frames := 3, cells := 0, slots := 0, locals := 69 }) (kp [.ref (a 0), .int (nI r0), .int (nI s0), .int wo] D (MW a cI z st zh le tx th pa rd nu pt wy za) (kT cI cC cH cL)) (kr (.returned (some (.int (nI (colsW z r0 s0 wo)))))) 0 0 (fun _ => False) := by
  refine Met.ofW (cc := cX5_columnsInWay) (maxL := 6) (ret := (some .int)) (by decide) rfl ?_
  intro p e s m args below meth c s₁ B hml hv
  obtain ⟨rfl, hP, hK⟩ := hv
  have hx := B.exec
  have hb := B.bytes
  have hrt := B.returns
  have hts := atoms_spec (ws := wsX5_columnsInWay) B.pre
  have hown : s.vm.findClass RX5 = some m.cls := findClass_of_methodNamed B.named
  have hlocks := B.notSynchronized
  have hl := lv_entry ([.ref (a 0), .int (nI r0), .int (nI s0), .int wo]) (n := 6) (Nat.le_of_ble_eq_true rfl)
  rw [lg_entry_eq]
  generalize (lg_sl ([.ref (a 0), .int (nI r0), .int (nI s0), .int wo]) ++ List.replicate (6 - (lg_sl ([.ref (a 0), .int (nI r0), .int (nI s0), .int wo])).length) Slot.unset).toArray = ls at hl ⊢
  have hl : lv_has ls 6 [(0, .ref (a 0)), (1, .int (nI r0)), (2, .int (nI s0)), (3, .int wo)] := hl
  have hR10 := wf_R10 hw
  have hC4 := wf_C4 hw
  refine lv_iconst (v := nI 0) hx hb dX5_columnsInWay_0 (by decide) ?_
  refine lv_istore (lv' := [(4, .int (nI 0)), (0, .ref (a 0)), (1, .int (nI r0)), (2, .int (nI s0)), (3, .int wo)]) hx hb dX5_columnsInWay_1 hl (by decide) rfl (fun ls hl => ?_)
  refine lv_iconst (v := nI 0) hx hb dX5_columnsInWay_3 (by decide) ?_
  refine lv_istore (lv' := [(5, .int (nI 0)), (4, .int (nI 0)), (0, .ref (a 0)), (1, .int (nI r0)), (2, .int (nI s0)), (3, .int wo)]) hx hb dX5_columnsInWay_4 hl (by decide) rfl (fun ls hl => ?_)
  have e6_0 : (0 : Nat) = (sumN 0 (fun k => b2 (!decide (nI k = wo) && cblk z k r0 s0))) := by first | rfl | omega | (simp [colsW, sumN_s, b2, Int32.not_lt, Int32.not_le]; done) | (simp [colsW, sumN_s, b2, Int32.not_lt, Int32.not_le]; omega)
  have hl6_1 : lv_has ls 6 [(0, .ref (a 0)), (1, .int (nI r0)), (2, .int (nI s0)), (3, .int wo), (4, .int (nI (sumN 0 (fun k => b2 (!decide (nI k = wo) && cblk z k r0 s0))))), (5, .int (nI 0))] := lv_eqv (l1 := [(0, .ref (a 0)), (1, .int (nI r0)), (2, .int (nI s0)), (3, .int wo), (4, .int (nI 0)), (5, .int (nI 0))]) (lv_sub hl [2, 3, 4, 5, 1, 0] rfl) (lv_ce rfl (lv_ce rfl (lv_ce rfl (lv_ce rfl (lv_ce (congrArg (fun x => Value.int (nI x)) e6_0) (lv_ce rfl rfl))))))
  refine kx_up (fun k ls => lv_has ls 6 [(0, .ref (a 0)), (1, .int (nI r0)), (2, .int (nI s0)), (3, .int wo), (4, .int (nI (sumN k (fun k => b2 (!decide (nI k = wo) && cblk z k r0 s0))))), (5, .int (nI k))]) (0) (nC z) (by omega) ls (hl6_1) ?_
  intro ik ls hikl hikh hp ih6
  have hl := hp
  refine lv_iload hx hb dX5_columnsInWay_6 (lv_at hl 5 rfl) ?_
  refine lv_aload_n hx hb dX5_columnsInWay_8 rfl (lv_at hl 0 rfl) ?_
  refine va_get (D := D) (ci := 5) (v := .ref (a 1)) (C := RX5) (T := TX5) (N := 12) hx hb hts iX5_columnsInWay_5 hown hK hP 0 rfl rfl 0 (by decide) (hts (.fieldLink RX5 7 "HallSightsModel" "z" "[I") (List.mem_of_getElem? (i := 1) rfl)) (fun _ h9 => h9) rfl dX5_columnsInWay_9 ?_
  refine lv_iconst (v := nI 4) hx hb dX5_columnsInWay_12 (by decide) ?_
  refine kx_iald hx hb hK hP 1 0 rfl rfl (by omega) (by decide) dX5_columnsInWay_13 ?_
  refine kx_top (wf_C hw) ?_
  refine kx_icmp_ge (tgt := 50) hx hb (by omega) (by omega) dX5_columnsInWay_14 (by decide) (fun c_14_2 => ?_) (fun c_14_3 => ?_)
  · have hq4 : nC z = ik := by omega
    subst hq4
    refine lv_iload hx hb dX5_columnsInWay_50 (lv_at hl 4 rfl) ?_
    have e_5 : (sumN (nC z) (fun k => b2 (!decide (nI k = wo) && cblk z k r0 s0)) : Nat) = (colsW z r0 s0 wo) := by first | rfl | omega | (simp [colsW, sumN_s, b2, Int32.not_lt, Int32.not_le, c_14_2, Nat.not_lt.mpr c_14_2]; done) | (simp [colsW, sumN_s, b2, Int32.not_lt, Int32.not_le, c_14_2, Nat.not_lt.mpr c_14_2]; omega) | (revert c_14_2; simp +contextual [colsW, sumN_s, b2, Int32.not_lt, Int32.not_le]; done) | (revert c_14_2; simp +contextual [colsW, sumN_s, b2, Int32.not_lt, Int32.not_le]; omega)
    exact kr_iret hx hb hrt hlocks (congrArg nI e_5) rfl dX5_columnsInWay_52
  · refine lv_iload hx hb dX5_columnsInWay_17 (lv_at hl 4 rfl) ?_
    refine lv_iload hx hb dX5_columnsInWay_19 (lv_at hl 5 rfl) ?_
    refine lv_iload_n hx hb dX5_columnsInWay_21 rfl (lv_at hl 3 rfl) ?_
    refine lv_icmp_eq (tgt := 40) hx hb dX5_columnsInWay_22 (by decide) (fun c_22_6 => ?_) (fun c_22_7 => ?_)
    · have c_22_6 : ((nI ik) : Int32) = wo := c_22_6
      refine lv_iconst (v := nI 0) hx hb dX5_columnsInWay_40 (by decide) ?_
      refine kx_iadd hx hb dX5_columnsInWay_41 ?_
      refine lv_istore (lv' := [(4, .int (nI ((sumN ik (fun k => b2 (!decide (nI k = wo) && cblk z k r0 s0))) + 0))), (0, .ref (a 0)), (1, .int (nI r0)), (2, .int (nI s0)), (3, .int wo), (5, .int (nI ik))]) hx hb dX5_columnsInWay_42 hl (by decide) rfl (fun ls hl => ?_)
      refine lv_iinc (v := nI (ik + 1)) (lv' := [(5, .int (nI (ik + 1))), (4, .int (nI ((sumN ik (fun k => b2 (!decide (nI k = wo) && cblk z k r0 s0))) + 0))), (0, .ref (a 0)), (1, .int (nI r0)), (2, .int (nI s0)), (3, .int wo)]) hx hb dX5_columnsInWay_44 hl (k := 5) rfl (kx_inc 1) (by decide) rfl (fun ls hl => ?_)
      refine lv_goto (tgt := 6) hx hb dX5_columnsInWay_47 (by decide) ?_
      have e6_8 : ((sumN ik (fun k => b2 (!decide (nI k = wo) && cblk z k r0 s0))) + 0 : Nat) = (sumN (ik + 1) (fun k => b2 (!decide (nI k = wo) && cblk z k r0 s0))) := by first | rfl | omega | (simp [colsW, sumN_s, b2, Int32.not_lt, Int32.not_le, c_14_3, Nat.not_le.mpr c_14_3, c_22_6]; done) | (simp [colsW, sumN_s, b2, Int32.not_lt, Int32.not_le, c_14_3, Nat.not_le.mpr c_14_3, c_22_6]; omega) | (revert c_14_3 c_22_6; simp +contextual [colsW, sumN_s, b2, Int32.not_lt, Int32.not_le]; done) | (revert c_14_3 c_22_6; simp +contextual [colsW, sumN_s, b2, Int32.not_lt, Int32.not_le]; omega)
      have e6_9 : (ik + 1 : Nat) = ((ik + 1)) := by first | rfl | omega | (simp [colsW, sumN_s, b2, Int32.not_lt, Int32.not_le, c_14_3, Nat.not_le.mpr c_14_3, c_22_6]; done) | (simp [colsW, sumN_s, b2, Int32.not_lt, Int32.not_le, c_14_3, Nat.not_le.mpr c_14_3, c_22_6]; omega) | (revert c_14_3 c_22_6; simp +contextual [colsW, sumN_s, b2, Int32.not_lt, Int32.not_le]; done) | (revert c_14_3 c_22_6; simp +contextual [colsW, sumN_s, b2, Int32.not_lt, Int32.not_le]; omega)
      have hl6_10 : lv_has ls 6 [(0, .ref (a 0)), (1, .int (nI r0)), (2, .int (nI s0)), (3, .int wo), (4, .int (nI (sumN (ik + 1) (fun k => b2 (!decide (nI k = wo) && cblk z k r0 s0))))), (5, .int (nI (ik + 1)))] := lv_eqv (l1 := [(0, .ref (a 0)), (1, .int (nI r0)), (2, .int (nI s0)), (3, .int wo), (4, .int (nI ((sumN ik (fun k => b2 (!decide (nI k = wo) && cblk z k r0 s0))) + 0))), (5, .int (nI (ik + 1)))]) (lv_sub hl [2, 3, 4, 5, 1, 0] rfl) (lv_ce rfl (lv_ce rfl (lv_ce rfl (lv_ce rfl (lv_ce (congrArg (fun x => Value.int (nI x)) e6_8) (lv_ce (congrArg (fun x => Value.int (nI x)) e6_9) rfl))))))
      exact ih6 _ (by omega) (hl6_10)
    · have c_22_7 : ¬ ((nI ik) : Int32) = wo := c_22_7
      refine lv_aload_n hx hb dX5_columnsInWay_25 rfl (lv_at hl 0 rfl) ?_
      refine lv_iload hx hb dX5_columnsInWay_26 (lv_at hl 5 rfl) ?_
      refine lv_iload_n hx hb dX5_columnsInWay_28 rfl (lv_at hl 1 rfl) ?_
      refine lv_iload_n hx hb dX5_columnsInWay_29 rfl (lv_at hl 2 rfl) ?_
      refine kr_V (As := [.int (nI ik), .int (nI r0), .int (nI s0)]) (rest := [.int (nI (sumN ik (fun k => b2 (!decide (nI k = wo) && cblk z k r0 s0))))]) (C := RX5) (own := RX5) ⟨hx, hb, hml, hown, hts⟩ (c_X5_columnBlocks l D cI cC cH cL a z zh tx pa wy st le th rd nu pt za ik r0 s0 (by first | assumption | omega) (by first | assumption | omega) (by first | assumption | omega)) (cwV 3 hts gX5_columnsInWay_X5_columnBlocks rfl rfl rfl k_X5_columnBlocks ⟨Nat.le_of_ble_eq_true rfl, Nat.le_of_ble_eq_true rfl⟩) hP hK (va_recv (q := (RX5, TX5, 12)) hK hP (ci := 5) (q0 := 0) rfl rfl) rfl hl.1 rfl (Nat.le_of_ble_eq_true rfl) dX5_columnsInWay_30 ⟨Nat.le_of_ble_eq_true rfl, Nat.le_of_ble_eq_true rfl⟩ ?_
      refine kx_if_eqb (tgt := 40) hx hb dX5_columnsInWay_33 (by decide) (fun c_33_11 => ?_) (fun c_33_12 => ?_)
      · refine lv_iconst (v := nI 0) hx hb dX5_columnsInWay_40 (by decide) ?_
        refine kx_iadd hx hb dX5_columnsInWay_41 ?_
        refine lv_istore (lv' := [(4, .int (nI ((sumN ik (fun k => b2 (!decide (nI k = wo) && cblk z k r0 s0))) + 0))), (0, .ref (a 0)), (1, .int (nI r0)), (2, .int (nI s0)), (3, .int wo), (5, .int (nI ik))]) hx hb dX5_columnsInWay_42 hl (by decide) rfl (fun ls hl => ?_)
        refine lv_iinc (v := nI (ik + 1)) (lv' := [(5, .int (nI (ik + 1))), (4, .int (nI ((sumN ik (fun k => b2 (!decide (nI k = wo) && cblk z k r0 s0))) + 0))), (0, .ref (a 0)), (1, .int (nI r0)), (2, .int (nI s0)), (3, .int wo)]) hx hb dX5_columnsInWay_44 hl (k := 5) rfl (kx_inc 1) (by decide) rfl (fun ls hl => ?_)
        refine lv_goto (tgt := 6) hx hb dX5_columnsInWay_47 (by decide) ?_
        have e6_13 : ((sumN ik (fun k => b2 (!decide (nI k = wo) && cblk z k r0 s0))) + 0 : Nat) = (sumN (ik + 1) (fun k => b2 (!decide (nI k = wo) && cblk z k r0 s0))) := by first | rfl | omega | (simp [colsW, sumN_s, b2, Int32.not_lt, Int32.not_le, c_14_3, Nat.not_le.mpr c_14_3, c_22_7, c_33_11]; done) | (simp [colsW, sumN_s, b2, Int32.not_lt, Int32.not_le, c_14_3, Nat.not_le.mpr c_14_3, c_22_7, c_33_11]; omega) | (revert c_14_3 c_22_7 c_33_11; simp +contextual [colsW, sumN_s, b2, Int32.not_lt, Int32.not_le]; done) | (revert c_14_3 c_22_7 c_33_11; simp +contextual [colsW, sumN_s, b2, Int32.not_lt, Int32.not_le]; omega)
        have e6_14 : (ik + 1 : Nat) = ((ik + 1)) := by first | rfl | omega | (simp [colsW, sumN_s, b2, Int32.not_lt, Int32.not_le, c_14_3, Nat.not_le.mpr c_14_3, c_22_7, c_33_11]; done) | (simp [colsW, sumN_s, b2, Int32.not_lt, Int32.not_le, c_14_3, Nat.not_le.mpr c_14_3, c_22_7, c_33_11]; omega) | (revert c_14_3 c_22_7 c_33_11; simp +contextual [colsW, sumN_s, b2, Int32.not_lt, Int32.not_le]; done) | (revert c_14_3 c_22_7 c_33_11; simp +contextual [colsW, sumN_s, b2, Int32.not_lt, Int32.not_le]; omega)
        have hl6_15 : lv_has ls 6 [(0, .ref (a 0)), (1, .int (nI r0)), (2, .int (nI s0)), (3, .int wo), (4, .int (nI (sumN (ik + 1) (fun k => b2 (!decide (nI k = wo) && cblk z k r0 s0))))), (5, .int (nI (ik + 1)))] := lv_eqv (l1 := [(0, .ref (a 0)), (1, .int (nI r0)), (2, .int (nI s0)), (3, .int wo), (4, .int (nI ((sumN ik (fun k => b2 (!decide (nI k = wo) && cblk z k r0 s0))) + 0))), (5, .int (nI (ik + 1)))]) (lv_sub hl [2, 3, 4, 5, 1, 0] rfl) (lv_ce rfl (lv_ce rfl (lv_ce rfl (lv_ce rfl (lv_ce (congrArg (fun x => Value.int (nI x)) e6_13) (lv_ce (congrArg (fun x => Value.int (nI x)) e6_14) rfl))))))
        exact ih6 _ (by omega) (hl6_15)
      · refine lv_iconst (v := nI 1) hx hb dX5_columnsInWay_36 (by decide) ?_
        refine lv_goto (tgt := 41) hx hb dX5_columnsInWay_37 (by decide) ?_
        refine kx_iadd hx hb dX5_columnsInWay_41 ?_
        refine lv_istore (lv' := [(4, .int (nI ((sumN ik (fun k => b2 (!decide (nI k = wo) && cblk z k r0 s0))) + 1))), (0, .ref (a 0)), (1, .int (nI r0)), (2, .int (nI s0)), (3, .int wo), (5, .int (nI ik))]) hx hb dX5_columnsInWay_42 hl (by decide) rfl (fun ls hl => ?_)
        refine lv_iinc (v := nI (ik + 1)) (lv' := [(5, .int (nI (ik + 1))), (4, .int (nI ((sumN ik (fun k => b2 (!decide (nI k = wo) && cblk z k r0 s0))) + 1))), (0, .ref (a 0)), (1, .int (nI r0)), (2, .int (nI s0)), (3, .int wo)]) hx hb dX5_columnsInWay_44 hl (k := 5) rfl (kx_inc 1) (by decide) rfl (fun ls hl => ?_)
        refine lv_goto (tgt := 6) hx hb dX5_columnsInWay_47 (by decide) ?_
        have e6_16 : ((sumN ik (fun k => b2 (!decide (nI k = wo) && cblk z k r0 s0))) + 1 : Nat) = (sumN (ik + 1) (fun k => b2 (!decide (nI k = wo) && cblk z k r0 s0))) := by first | rfl | omega | (simp [colsW, sumN_s, b2, Int32.not_lt, Int32.not_le, c_14_3, Nat.not_le.mpr c_14_3, c_22_7, c_33_12]; done) | (simp [colsW, sumN_s, b2, Int32.not_lt, Int32.not_le, c_14_3, Nat.not_le.mpr c_14_3, c_22_7, c_33_12]; omega) | (revert c_14_3 c_22_7 c_33_12; simp +contextual [colsW, sumN_s, b2, Int32.not_lt, Int32.not_le]; done) | (revert c_14_3 c_22_7 c_33_12; simp +contextual [colsW, sumN_s, b2, Int32.not_lt, Int32.not_le]; omega)
        have e6_17 : (ik + 1 : Nat) = ((ik + 1)) := by first | rfl | omega | (simp [colsW, sumN_s, b2, Int32.not_lt, Int32.not_le, c_14_3, Nat.not_le.mpr c_14_3, c_22_7, c_33_12]; done) | (simp [colsW, sumN_s, b2, Int32.not_lt, Int32.not_le, c_14_3, Nat.not_le.mpr c_14_3, c_22_7, c_33_12]; omega) | (revert c_14_3 c_22_7 c_33_12; simp +contextual [colsW, sumN_s, b2, Int32.not_lt, Int32.not_le]; done) | (revert c_14_3 c_22_7 c_33_12; simp +contextual [colsW, sumN_s, b2, Int32.not_lt, Int32.not_le]; omega)
        have hl6_18 : lv_has ls 6 [(0, .ref (a 0)), (1, .int (nI r0)), (2, .int (nI s0)), (3, .int wo), (4, .int (nI (sumN (ik + 1) (fun k => b2 (!decide (nI k = wo) && cblk z k r0 s0))))), (5, .int (nI (ik + 1)))] := lv_eqv (l1 := [(0, .ref (a 0)), (1, .int (nI r0)), (2, .int (nI s0)), (3, .int wo), (4, .int (nI ((sumN ik (fun k => b2 (!decide (nI k = wo) && cblk z k r0 s0))) + 1))), (5, .int (nI (ik + 1)))]) (lv_sub hl [2, 3, 4, 5, 1, 0] rfl) (lv_ce rfl (lv_ce rfl (lv_ce rfl (lv_ce rfl (lv_ce (congrArg (fun x => Value.int (nI x)) e6_16) (lv_ce (congrArg (fun x => Value.int (nI x)) e6_17) rfl))))))
        exact ih6 _ (by omega) (hl6_18)
set_option maxHeartbeats 4000000 in
set_option maxRecDepth 100000 in
theorem c_X5_inWay (l : Launch) (D : va_G) (cI cC cH cL : ClassId) (a : Nat → Nat) (z zh tx pa wy : ZZ) (st le th rd nu pt : Int32) (za : Int64) (r0 : Nat) (s0 : Nat) (hw : WF z) (hr : r0 < nR z) : Met l yX5_inWay wsX5_inWay ({ frames := 4, cells := 0, slots := 0, locals := 96 }) (kp [.ref (a 0), .int (nI r0), .int (nI s0)] D (MW a cI z st zh le tx th pa rd nu pt wy za) (kT cI cC cH cL)) (kr (.returned (some (.int (nI (ways z r0 s0)))))) 0 0 (fun _ => False) := by
  refine Met.ofW (cc := cX5_inWay) (maxL := 3) (ret := (some .int)) (by decide) rfl ?_
  intro p e s m args below meth c s₁ B hml hv
  obtain ⟨rfl, hP, hK⟩ := hv
  have hx := B.exec
  have hb := B.bytes
  have hrt := B.returns
  have hts := atoms_spec (ws := wsX5_inWay) B.pre
  have hown : s.vm.findClass RX5 = some m.cls := findClass_of_methodNamed B.named
  have hlocks := B.notSynchronized
  have hl := lv_entry ([.ref (a 0), .int (nI r0), .int (nI s0)]) (n := 3) (Nat.le_of_ble_eq_true rfl)
  rw [lg_entry_eq]
  generalize (lg_sl ([.ref (a 0), .int (nI r0), .int (nI s0)]) ++ List.replicate (3 - (lg_sl ([.ref (a 0), .int (nI r0), .int (nI s0)])).length) Slot.unset).toArray = ls at hl ⊢
  have hl : lv_has ls 3 [(0, .ref (a 0)), (1, .int (nI r0)), (2, .int (nI s0))] := hl
  have hR10 := wf_R10 hw
  have hC4 := wf_C4 hw
  refine lv_aload_n hx hb dX5_inWay_0 rfl (lv_at hl 0 rfl) ?_
  refine lv_iload_n hx hb dX5_inWay_1 rfl (lv_at hl 1 rfl) ?_
  refine lv_iload_n hx hb dX5_inWay_2 rfl (lv_at hl 2 rfl) ?_
  refine kr_V (As := [.int (nI r0), .int (nI s0)]) (rest := []) (C := RX5) (own := RX5) ⟨hx, hb, hml, hown, hts⟩ (c_X5_peopleInWay l D cI cC cH cL a z zh tx pa wy st le th rd nu pt za r0 s0 (by first | assumption | omega) (by first | assumption | omega)) (cwV 2 hts gX5_inWay_X5_peopleInWay rfl rfl rfl k_X5_peopleInWay ⟨Nat.le_of_ble_eq_true rfl, Nat.le_of_ble_eq_true rfl⟩) hP hK (va_recv (q := (RX5, TX5, 12)) hK hP (ci := 5) (q0 := 0) rfl rfl) rfl hl.1 rfl (Nat.le_of_ble_eq_true rfl) dX5_inWay_3 ⟨Nat.le_of_ble_eq_true rfl, Nat.le_of_ble_eq_true rfl⟩ ?_
  refine lv_aload_n hx hb dX5_inWay_6 rfl (lv_at hl 0 rfl) ?_
  refine lv_iload_n hx hb dX5_inWay_7 rfl (lv_at hl 1 rfl) ?_
  refine lv_iload_n hx hb dX5_inWay_8 rfl (lv_at hl 2 rfl) ?_
  refine lv_iconst (v := (-1)) hx hb dX5_inWay_9 (by decide) ?_
  refine kr_V (As := [.int (nI r0), .int (nI s0), .int (-1)]) (rest := [.int (nI (people z r0 s0))]) (C := RX5) (own := RX5) ⟨hx, hb, hml, hown, hts⟩ (c_X5_columnsInWay l D cI cC cH cL a z zh tx pa wy st le th rd nu pt za r0 s0 (-1) (by first | assumption | omega) (by first | assumption | omega)) (cwV 3 hts gX5_inWay_X5_columnsInWay rfl rfl rfl k_X5_columnsInWay ⟨Nat.le_of_ble_eq_true rfl, Nat.le_of_ble_eq_true rfl⟩) hP hK (va_recv (q := (RX5, TX5, 12)) hK hP (ci := 5) (q0 := 0) rfl rfl) rfl hl.1 rfl (Nat.le_of_ble_eq_true rfl) dX5_inWay_10 ⟨Nat.le_of_ble_eq_true rfl, Nat.le_of_ble_eq_true rfl⟩ ?_
  refine kx_iadd hx hb dX5_inWay_13 ?_
  have e_0 : ((people z r0 s0) + (colsW z r0 s0 (-1)) : Nat) = (ways z r0 s0) := by first | rfl | omega | (simp [ways, Int32.not_lt, Int32.not_le]; done) | (simp [ways, Int32.not_lt, Int32.not_le]; omega)
  exact kr_iret hx hb hrt hlocks (congrArg nI e_0) rfl dX5_inWay_14
set_option maxHeartbeats 4000000 in
set_option maxRecDepth 100000 in
theorem c_X5_sees (l : Launch) (D : va_G) (cI cC cH cL : ClassId) (a : Nat → Nat) (z zh tx pa wy : ZZ) (st le th rd nu pt : Int32) (za : Int64) (r0 : Nat) (s0 : Nat) (hw : WF z) (hr : r0 < nR z) : Met l yX5_sees wsX5_sees ({ frames := 5, cells := 0, slots := 0, locals := 118 }) (kp [.ref (a 0), .int (nI r0), .int (nI s0)] D (MW a cI z st zh le tx th pa rd nu pt wy za) (kT cI cC cH cL)) (kr (.returned (some (.int (bI (seesB z r0 s0)))))) 0 0 (fun _ => False) := by
  refine Met.ofW (cc := cX5_sees) (maxL := 3) (ret := (some .boolean)) (by decide) rfl ?_
  intro p e s m args below meth c s₁ B hml hv
  obtain ⟨rfl, hP, hK⟩ := hv
  have hx := B.exec
  have hb := B.bytes
  have hrt := B.returns
  have hts := atoms_spec (ws := wsX5_sees) B.pre
  have hown : s.vm.findClass RX5 = some m.cls := findClass_of_methodNamed B.named
  have hlocks := B.notSynchronized
  have hl := lv_entry ([.ref (a 0), .int (nI r0), .int (nI s0)]) (n := 3) (Nat.le_of_ble_eq_true rfl)
  rw [lg_entry_eq]
  generalize (lg_sl ([.ref (a 0), .int (nI r0), .int (nI s0)]) ++ List.replicate (3 - (lg_sl ([.ref (a 0), .int (nI r0), .int (nI s0)])).length) Slot.unset).toArray = ls at hl ⊢
  have hl : lv_has ls 3 [(0, .ref (a 0)), (1, .int (nI r0)), (2, .int (nI s0))] := hl
  have hR10 := wf_R10 hw
  have hC4 := wf_C4 hw
  have hwb := ways_b hw hr s0
  refine lv_aload_n hx hb dX5_sees_0 rfl (lv_at hl 0 rfl) ?_
  refine lv_iload_n hx hb dX5_sees_1 rfl (lv_at hl 1 rfl) ?_
  refine lv_iload_n hx hb dX5_sees_2 rfl (lv_at hl 2 rfl) ?_
  refine kr_V (As := [.int (nI r0), .int (nI s0)]) (rest := []) (C := RX5) (own := RX5) ⟨hx, hb, hml, hown, hts⟩ (c_X5_inWay l D cI cC cH cL a z zh tx pa wy st le th rd nu pt za r0 s0 (by first | assumption | omega) (by first | assumption | omega)) (cwV 2 hts gX5_sees_X5_inWay rfl rfl rfl k_X5_inWay ⟨Nat.le_of_ble_eq_true rfl, Nat.le_of_ble_eq_true rfl⟩) hP hK (va_recv (q := (RX5, TX5, 12)) hK hP (ci := 5) (q0 := 0) rfl rfl) rfl hl.1 rfl (Nat.le_of_ble_eq_true rfl) dX5_sees_3 ⟨Nat.le_of_ble_eq_true rfl, Nat.le_of_ble_eq_true rfl⟩ ?_
  refine kx_if_ne (tgt := 13) hx hb (by omega) dX5_sees_6 (by decide) (fun c_6_0 => ?_) (fun c_6_1 => ?_)
  · refine lv_iconst (v := nI 0) hx hb dX5_sees_13 (by decide) ?_
    have e_2 : (false : Bool) = (seesB z r0 s0) := by first | rfl | omega | (simp [seesB, Int32.not_lt, Int32.not_le, c_6_0, Nat.ne_of_gt c_6_0]; done) | (simp [seesB, Int32.not_lt, Int32.not_le, c_6_0, Nat.ne_of_gt c_6_0]; omega) | (revert c_6_0; simp +contextual [seesB, Int32.not_lt, Int32.not_le]; done) | (revert c_6_0; simp +contextual [seesB, Int32.not_lt, Int32.not_le]; omega)
    exact kr_zret hx hb hrt hlocks (congrArg bI e_2) rfl dX5_sees_14
  · refine lv_iconst (v := nI 1) hx hb dX5_sees_9 (by decide) ?_
    refine lv_goto (tgt := 14) hx hb dX5_sees_10 (by decide) ?_
    have e_3 : (true : Bool) = (seesB z r0 s0) := by first | rfl | omega | (simp [seesB, Int32.not_lt, Int32.not_le, c_6_1]; done) | (simp [seesB, Int32.not_lt, Int32.not_le, c_6_1]; omega) | (revert c_6_1; simp +contextual [seesB, Int32.not_lt, Int32.not_le]; done) | (revert c_6_1; simp +contextual [seesB, Int32.not_lt, Int32.not_le]; omega)
    exact kr_zret hx hb hrt hlocks (congrArg bI e_3) rfl dX5_sees_14
set_option maxHeartbeats 4000000 in
set_option maxRecDepth 100000 in
theorem c_X5_isFar (l : Launch) (D : va_G) (cI cC cH cL : ClassId)  (d0 : Int32)  : Met l yX5_isFar wsX5_isFar ({ frames := 1, cells := 0, slots := 0, locals := 22 }) (kp [.int d0] D ([]) (kT cI cC cH cL)) (kr (.returned (some (.int (bI (wthn d0 (nI 1) (nI 999))))))) 0 0 (fun _ => False) := by
  refine Met.ofW (cc := cX5_isFar) (maxL := 1) (ret := (some .boolean)) (by decide) rfl ?_
  intro p e s m args below meth c s₁ B hml hv
  obtain ⟨rfl, hP, hK⟩ := hv
  have hx := B.exec
  have hb := B.bytes
  have hrt := B.returns
  have hts := atoms_spec (ws := wsX5_isFar) B.pre
  have hown : s.vm.findClass RX5 = some m.cls := findClass_of_methodNamed B.named
  have hlocks := B.notSynchronized
  have hl := lv_entry ([.int d0]) (n := 1) (Nat.le_of_ble_eq_true rfl)
  rw [lg_entry_eq]
  generalize (lg_sl ([.int d0]) ++ List.replicate (1 - (lg_sl ([.int d0])).length) Slot.unset).toArray = ls at hl ⊢
  have hl : lv_has ls 1 [(0, .int d0)] := hl
  refine lv_iload_n hx hb dX5_isFar_0 rfl (lv_at hl 0 rfl) ?_
  refine lv_iconst (v := nI 1) hx hb dX5_isFar_1 (by decide) ?_
  refine lv_sipush (v := nI 999) hx hb dX5_isFar_2 (by decide) ?_
  refine kr_S (As := [.int d0, .int (nI 1), .int (nI 999)]) (rest := []) (own := RX5) ⟨hx, hb, hml, hown, hts⟩ (c_X5_within l D cI cC cH cL  d0 (nI 1) (nI 999) ) (va_cwS 3 hts gX5_isFar_X5_within rfl rfl rfl k_X5_withinS ⟨Nat.le_of_ble_eq_true rfl, Nat.le_of_ble_eq_true rfl⟩) hP hK rfl hl.1 rfl (Nat.le_of_ble_eq_true rfl) dX5_isFar_5 ⟨Nat.le_of_ble_eq_true rfl, Nat.le_of_ble_eq_true rfl⟩ ?_
  exact kr_zret hx hb hrt hlocks rfl rfl dX5_isFar_8
set_option maxHeartbeats 4000000 in
set_option maxRecDepth 100000 in
theorem c_X5_isHeight (l : Launch) (D : va_G) (cI cC cH cL : ClassId)  (d0 : Int32)  : Met l yX5_isHeight wsX5_isHeight ({ frames := 1, cells := 0, slots := 0, locals := 22 }) (kp [.int d0] D ([]) (kT cI cC cH cL)) (kr (.returned (some (.int (bI (wthn d0 (nI 0) (nI 999))))))) 0 0 (fun _ => False) := by
  refine Met.ofW (cc := cX5_isHeight) (maxL := 1) (ret := (some .boolean)) (by decide) rfl ?_
  intro p e s m args below meth c s₁ B hml hv
  obtain ⟨rfl, hP, hK⟩ := hv
  have hx := B.exec
  have hb := B.bytes
  have hrt := B.returns
  have hts := atoms_spec (ws := wsX5_isHeight) B.pre
  have hown : s.vm.findClass RX5 = some m.cls := findClass_of_methodNamed B.named
  have hlocks := B.notSynchronized
  have hl := lv_entry ([.int d0]) (n := 1) (Nat.le_of_ble_eq_true rfl)
  rw [lg_entry_eq]
  generalize (lg_sl ([.int d0]) ++ List.replicate (1 - (lg_sl ([.int d0])).length) Slot.unset).toArray = ls at hl ⊢
  have hl : lv_has ls 1 [(0, .int d0)] := hl
  refine lv_iload_n hx hb dX5_isHeight_0 rfl (lv_at hl 0 rfl) ?_
  refine lv_iconst (v := nI 0) hx hb dX5_isHeight_1 (by decide) ?_
  refine lv_sipush (v := nI 999) hx hb dX5_isHeight_2 (by decide) ?_
  refine kr_S (As := [.int d0, .int (nI 0), .int (nI 999)]) (rest := []) (own := RX5) ⟨hx, hb, hml, hown, hts⟩ (c_X5_within l D cI cC cH cL  d0 (nI 0) (nI 999) ) (va_cwS 3 hts gX5_isHeight_X5_within rfl rfl rfl k_X5_withinS ⟨Nat.le_of_ble_eq_true rfl, Nat.le_of_ble_eq_true rfl⟩) hP hK rfl hl.1 rfl (Nat.le_of_ble_eq_true rfl) dX5_isHeight_5 ⟨Nat.le_of_ble_eq_true rfl, Nat.le_of_ble_eq_true rfl⟩ ?_
  exact kr_zret hx hb hrt hlocks rfl rfl dX5_isHeight_8
set_option maxHeartbeats 4000000 in
set_option maxRecDepth 100000 in
theorem c_X5_isSetting (l : Launch) (D : va_G) (cI cC cH cL : ClassId)  (d0 : Int32)  : Met l yX5_isSetting wsX5_isSetting ({ frames := 1, cells := 0, slots := 0, locals := 22 }) (kp [.int d0] D ([]) (kT cI cC cH cL)) (kr (.returned (some (.int (bI (wthn d0 (nI 0) (nI 2))))))) 0 0 (fun _ => False) := by
  refine Met.ofW (cc := cX5_isSetting) (maxL := 1) (ret := (some .boolean)) (by decide) rfl ?_
  intro p e s m args below meth c s₁ B hml hv
  obtain ⟨rfl, hP, hK⟩ := hv
  have hx := B.exec
  have hb := B.bytes
  have hrt := B.returns
  have hts := atoms_spec (ws := wsX5_isSetting) B.pre
  have hown : s.vm.findClass RX5 = some m.cls := findClass_of_methodNamed B.named
  have hlocks := B.notSynchronized
  have hl := lv_entry ([.int d0]) (n := 1) (Nat.le_of_ble_eq_true rfl)
  rw [lg_entry_eq]
  generalize (lg_sl ([.int d0]) ++ List.replicate (1 - (lg_sl ([.int d0])).length) Slot.unset).toArray = ls at hl ⊢
  have hl : lv_has ls 1 [(0, .int d0)] := hl
  refine lv_iload_n hx hb dX5_isSetting_0 rfl (lv_at hl 0 rfl) ?_
  refine lv_iconst (v := nI 0) hx hb dX5_isSetting_1 (by decide) ?_
  refine lv_iconst (v := nI 2) hx hb dX5_isSetting_2 (by decide) ?_
  refine kr_S (As := [.int d0, .int (nI 0), .int (nI 2)]) (rest := []) (own := RX5) ⟨hx, hb, hml, hown, hts⟩ (c_X5_within l D cI cC cH cL  d0 (nI 0) (nI 2) ) (va_cwS 3 hts gX5_isSetting_X5_within rfl rfl rfl k_X5_withinS ⟨Nat.le_of_ble_eq_true rfl, Nat.le_of_ble_eq_true rfl⟩) hP hK rfl hl.1 rfl (Nat.le_of_ble_eq_true rfl) dX5_isSetting_3 ⟨Nat.le_of_ble_eq_true rfl, Nat.le_of_ble_eq_true rfl⟩ ?_
  exact kr_zret hx hb hrt hlocks rfl rfl dX5_isSetting_6
set_option maxRecDepth 20000 in
theorem iX5_canAddRow_5 : ∀ w ∈ wsX50, w ∈ wsX5_canAddRow := by decide +kernel
set_option maxHeartbeats 4000000 in
set_option maxRecDepth 100000 in
theorem c_X5_canAddRow (l : Launch) (D : va_G) (cI cC cH cL : ClassId) (a : Nat → Nat) (z zh tx pa wy : ZZ) (st le th rd nu pt : Int32) (za : Int64) (d0 : Int32) (hw : WF z) : Met l yX5_canAddRow wsX5_canAddRow ({ frames := 1, cells := 0, slots := 0, locals := 22 }) (kp [.ref (a 0), .int d0] D (MW a cI z st zh le tx th pa rd nu pt wy za) (kT cI cC cH cL)) (kr (.returned (some (.int (bI (canAdd z d0)))))) 0 0 (fun _ => False) := by
  refine Met.ofW (cc := cX5_canAddRow) (maxL := 4) (ret := (some .boolean)) (by decide) rfl ?_
  intro p e s m args below meth c s₁ B hml hv
  obtain ⟨rfl, hP, hK⟩ := hv
  have hx := B.exec
  have hb := B.bytes
  have hrt := B.returns
  have hts := atoms_spec (ws := wsX5_canAddRow) B.pre
  have hown : s.vm.findClass RX5 = some m.cls := findClass_of_methodNamed B.named
  have hlocks := B.notSynchronized
  have hl := lv_entry ([.ref (a 0), .int d0]) (n := 4) (Nat.le_of_ble_eq_true rfl)
  rw [lg_entry_eq]
  generalize (lg_sl ([.ref (a 0), .int d0]) ++ List.replicate (4 - (lg_sl ([.ref (a 0), .int d0])).length) Slot.unset).toArray = ls at hl ⊢
  have hl : lv_has ls 4 [(0, .ref (a 0)), (1, .int d0)] := hl
  have hR10 := wf_R10 hw
  have hC4 := wf_C4 hw
  refine lv_aload_n hx hb dX5_canAddRow_0 rfl (lv_at hl 0 rfl) ?_
  refine va_get (D := D) (ci := 5) (v := .ref (a 1)) (C := RX5) (T := TX5) (N := 12) hx hb hts iX5_canAddRow_5 hown hK hP 0 rfl rfl 0 (by decide) (hts (.fieldLink RX5 7 "HallSightsModel" "z" "[I") (List.mem_of_getElem? (i := 1) rfl)) (fun _ h9 => h9) rfl dX5_canAddRow_1 ?_
  refine lv_iconst (v := nI 3) hx hb dX5_canAddRow_4 (by decide) ?_
  refine kx_iald hx hb hK hP 1 0 rfl rfl (by omega) (by decide) dX5_canAddRow_5 ?_
  refine kx_top (wf_R hw) ?_
  refine lv_bipush (v := nI 10) hx hb dX5_canAddRow_6 (by decide) ?_
  refine kx_icmp_ge (tgt := 15) hx hb (by omega) (by omega) dX5_canAddRow_8 (by decide) (fun c_8_0 => ?_) (fun c_8_1 => ?_)
  · refine lv_iconst (v := nI 0) hx hb dX5_canAddRow_15 (by decide) ?_
    refine lv_istore_n (lv' := [(2, .int (nI 0)), (0, .ref (a 0)), (1, .int d0)]) hx hb dX5_canAddRow_16 rfl hl (by decide) rfl (fun ls hl => ?_)
    refine lv_iconst (v := nI 0) hx hb dX5_canAddRow_17 (by decide) ?_
    refine lv_istore_n (lv' := [(3, .int (nI 0)), (2, .int (nI 0)), (0, .ref (a 0)), (1, .int d0)]) hx hb dX5_canAddRow_18 rfl hl (by decide) rfl (fun ls hl => ?_)
    have e19_2 : (false : Bool) = (decide (nR z < 10) && allN 0 (fun r => !decide (z (5 + 4 * r) = d0))) := by first | rfl | omega | (simp [canAdd, allN_s, allN, Int32.not_lt, Int32.not_le, c_8_0, Nat.not_lt.mpr c_8_0]; done) | (simp [canAdd, allN_s, allN, Int32.not_lt, Int32.not_le, c_8_0, Nat.not_lt.mpr c_8_0]; omega) | (revert c_8_0; simp +contextual [canAdd, allN_s, allN, Int32.not_lt, Int32.not_le]; done) | (revert c_8_0; simp +contextual [canAdd, allN_s, allN, Int32.not_lt, Int32.not_le]; omega)
    have hl19_3 : lv_has ls 4 [(0, .ref (a 0)), (1, .int d0), (2, .int (bI (decide (nR z < 10) && allN 0 (fun r => !decide (z (5 + 4 * r) = d0))))), (3, .int (nI 0))] := lv_eqv (l1 := [(0, .ref (a 0)), (1, .int d0), (2, .int (nI 0)), (3, .int (nI 0))]) (lv_sub hl [2, 3, 1, 0] rfl) (lv_ce rfl (lv_ce rfl (lv_ce (congrArg (fun x => Value.int (bI x)) e19_2) (lv_ce rfl rfl))))
    refine kx_up (fun k ls => lv_has ls 4 [(0, .ref (a 0)), (1, .int d0), (2, .int (bI (decide (nR z < 10) && allN k (fun r => !decide (z (5 + 4 * r) = d0))))), (3, .int (nI k))]) (0) (nR z) (by omega) ls (hl19_3) ?_
    intro ir ls hirl hirh hp ih19
    have hl := hp
    refine lv_iload_n hx hb dX5_canAddRow_19 rfl (lv_at hl 3 rfl) ?_
    refine lv_aload_n hx hb dX5_canAddRow_20 rfl (lv_at hl 0 rfl) ?_
    refine va_get (D := D) (ci := 5) (v := .ref (a 1)) (C := RX5) (T := TX5) (N := 12) hx hb hts iX5_canAddRow_5 hown hK hP 0 rfl rfl 0 (by decide) (hts (.fieldLink RX5 7 "HallSightsModel" "z" "[I") (List.mem_of_getElem? (i := 1) rfl)) (fun _ h9 => h9) rfl dX5_canAddRow_21 ?_
    refine lv_iconst (v := nI 3) hx hb dX5_canAddRow_24 (by decide) ?_
    refine kx_iald hx hb hK hP 1 0 rfl rfl (by omega) (by decide) dX5_canAddRow_25 ?_
    refine kx_top (wf_R hw) ?_
    refine kx_icmp_ge (tgt := 55) hx hb (by omega) (by omega) dX5_canAddRow_26 (by decide) (fun c_26_4 => ?_) (fun c_26_5 => ?_)
    · have hq6 : nR z = ir := by omega
      subst hq6
      refine lv_iload_n hx hb dX5_canAddRow_55 rfl (lv_at hl 2 rfl) ?_
      have e_7 : (decide (nR z < 10) && allN (nR z) (fun r => !decide (z (5 + 4 * r) = d0)) : Bool) = (canAdd z d0) := by first | rfl | omega | (simp [canAdd, allN_s, allN, Int32.not_lt, Int32.not_le, c_8_0, Nat.not_lt.mpr c_8_0, c_26_4, Nat.not_lt.mpr c_26_4]; done) | (simp [canAdd, allN_s, allN, Int32.not_lt, Int32.not_le, c_8_0, Nat.not_lt.mpr c_8_0, c_26_4, Nat.not_lt.mpr c_26_4]; omega) | (revert c_8_0 c_26_4; simp +contextual [canAdd, allN_s, allN, Int32.not_lt, Int32.not_le]; done) | (revert c_8_0 c_26_4; simp +contextual [canAdd, allN_s, allN, Int32.not_lt, Int32.not_le]; omega)
      exact kr_zret hx hb hrt hlocks (congrArg bI e_7) rfl dX5_canAddRow_56
    · refine lv_iload_n hx hb dX5_canAddRow_29 rfl (lv_at hl 2 rfl) ?_
      refine kx_if_eqb (tgt := 47) hx hb dX5_canAddRow_30 (by decide) (fun c_30_8 => ?_) (fun c_30_9 => ?_)
      · refine lv_iconst (v := nI 0) hx hb dX5_canAddRow_47 (by decide) ?_
        refine lv_istore_n (lv' := [(2, .int (nI 0)), (0, .ref (a 0)), (1, .int d0), (3, .int (nI ir))]) hx hb dX5_canAddRow_48 rfl hl (by decide) rfl (fun ls hl => ?_)
        refine lv_iinc (v := nI (ir + 1)) (lv' := [(3, .int (nI (ir + 1))), (2, .int (nI 0)), (0, .ref (a 0)), (1, .int d0)]) hx hb dX5_canAddRow_49 hl (k := 3) rfl (kx_inc 1) (by decide) rfl (fun ls hl => ?_)
        refine lv_goto (tgt := 19) hx hb dX5_canAddRow_52 (by decide) ?_
        have e19_10 : (false : Bool) = (decide (nR z < 10) && allN (ir + 1) (fun r => !decide (z (5 + 4 * r) = d0))) := by first | rfl | omega | (simp [canAdd, allN_s, allN, Int32.not_lt, Int32.not_le, c_8_0, Nat.not_lt.mpr c_8_0, c_26_5, Nat.not_le.mpr c_26_5, c_30_8]; done) | (simp [canAdd, allN_s, allN, Int32.not_lt, Int32.not_le, c_8_0, Nat.not_lt.mpr c_8_0, c_26_5, Nat.not_le.mpr c_26_5, c_30_8]; omega) | (revert c_8_0 c_26_5 c_30_8; simp +contextual [canAdd, allN_s, allN, Int32.not_lt, Int32.not_le]; done) | (revert c_8_0 c_26_5 c_30_8; simp +contextual [canAdd, allN_s, allN, Int32.not_lt, Int32.not_le]; omega)
        have e19_11 : (ir + 1 : Nat) = ((ir + 1)) := by first | rfl | omega | (simp [canAdd, allN_s, allN, Int32.not_lt, Int32.not_le, c_8_0, Nat.not_lt.mpr c_8_0, c_26_5, Nat.not_le.mpr c_26_5, c_30_8]; done) | (simp [canAdd, allN_s, allN, Int32.not_lt, Int32.not_le, c_8_0, Nat.not_lt.mpr c_8_0, c_26_5, Nat.not_le.mpr c_26_5, c_30_8]; omega) | (revert c_8_0 c_26_5 c_30_8; simp +contextual [canAdd, allN_s, allN, Int32.not_lt, Int32.not_le]; done) | (revert c_8_0 c_26_5 c_30_8; simp +contextual [canAdd, allN_s, allN, Int32.not_lt, Int32.not_le]; omega)
        have hl19_12 : lv_has ls 4 [(0, .ref (a 0)), (1, .int d0), (2, .int (bI (decide (nR z < 10) && allN (ir + 1) (fun r => !decide (z (5 + 4 * r) = d0))))), (3, .int (nI (ir + 1)))] := lv_eqv (l1 := [(0, .ref (a 0)), (1, .int d0), (2, .int (nI 0)), (3, .int (nI (ir + 1)))]) (lv_sub hl [2, 3, 1, 0] rfl) (lv_ce rfl (lv_ce rfl (lv_ce (congrArg (fun x => Value.int (bI x)) e19_10) (lv_ce (congrArg (fun x => Value.int (nI x)) e19_11) rfl))))
        exact ih19 _ (by omega) (hl19_12)
      · refine lv_aload_n hx hb dX5_canAddRow_33 rfl (lv_at hl 0 rfl) ?_
        refine lv_iload_n hx hb dX5_canAddRow_34 rfl (lv_at hl 3 rfl) ?_
        refine lv_iconst (v := nI 0) hx hb dX5_canAddRow_35 (by decide) ?_
        refine kr_V (As := [.int (nI ir), .int (nI 0)]) (rest := []) (C := RX5) (own := RX5) ⟨hx, hb, hml, hown, hts⟩ (c_X5_of l D cI cC cH cL a z zh tx pa wy st le th rd nu pt za ir 0 (by first | assumption | omega)) (cwV 2 hts gX5_canAddRow_X5_of rfl rfl rfl k_X5_of ⟨Nat.le_of_ble_eq_true rfl, Nat.le_of_ble_eq_true rfl⟩) hP hK (va_recv (q := (RX5, TX5, 12)) hK hP (ci := 5) (q0 := 0) rfl rfl) rfl hl.1 rfl (Nat.le_of_ble_eq_true rfl) dX5_canAddRow_36 ⟨Nat.le_of_ble_eq_true rfl, Nat.le_of_ble_eq_true rfl⟩ ?_
        refine lv_iload_n hx hb dX5_canAddRow_39 rfl (lv_at hl 1 rfl) ?_
        refine lv_icmp_eq (tgt := 47) hx hb dX5_canAddRow_40 (by decide) (fun c_40_13 => ?_) (fun c_40_14 => ?_)
        · have c_40_13 : ((z (5 + 4 * ir)) : Int32) = d0 := c_40_13
          refine lv_iconst (v := nI 0) hx hb dX5_canAddRow_47 (by decide) ?_
          refine lv_istore_n (lv' := [(2, .int (nI 0)), (0, .ref (a 0)), (1, .int d0), (3, .int (nI ir))]) hx hb dX5_canAddRow_48 rfl hl (by decide) rfl (fun ls hl => ?_)
          refine lv_iinc (v := nI (ir + 1)) (lv' := [(3, .int (nI (ir + 1))), (2, .int (nI 0)), (0, .ref (a 0)), (1, .int d0)]) hx hb dX5_canAddRow_49 hl (k := 3) rfl (kx_inc 1) (by decide) rfl (fun ls hl => ?_)
          refine lv_goto (tgt := 19) hx hb dX5_canAddRow_52 (by decide) ?_
          have e19_15 : (false : Bool) = (decide (nR z < 10) && allN (ir + 1) (fun r => !decide (z (5 + 4 * r) = d0))) := by first | rfl | omega | (simp [canAdd, allN_s, allN, Int32.not_lt, Int32.not_le, c_8_0, Nat.not_lt.mpr c_8_0, c_26_5, Nat.not_le.mpr c_26_5, c_30_9, c_40_13]; done) | (simp [canAdd, allN_s, allN, Int32.not_lt, Int32.not_le, c_8_0, Nat.not_lt.mpr c_8_0, c_26_5, Nat.not_le.mpr c_26_5, c_30_9, c_40_13]; omega) | (revert c_8_0 c_26_5 c_30_9 c_40_13; simp +contextual [canAdd, allN_s, allN, Int32.not_lt, Int32.not_le]; done) | (revert c_8_0 c_26_5 c_30_9 c_40_13; simp +contextual [canAdd, allN_s, allN, Int32.not_lt, Int32.not_le]; omega)
          have e19_16 : (ir + 1 : Nat) = ((ir + 1)) := by first | rfl | omega | (simp [canAdd, allN_s, allN, Int32.not_lt, Int32.not_le, c_8_0, Nat.not_lt.mpr c_8_0, c_26_5, Nat.not_le.mpr c_26_5, c_30_9, c_40_13]; done) | (simp [canAdd, allN_s, allN, Int32.not_lt, Int32.not_le, c_8_0, Nat.not_lt.mpr c_8_0, c_26_5, Nat.not_le.mpr c_26_5, c_30_9, c_40_13]; omega) | (revert c_8_0 c_26_5 c_30_9 c_40_13; simp +contextual [canAdd, allN_s, allN, Int32.not_lt, Int32.not_le]; done) | (revert c_8_0 c_26_5 c_30_9 c_40_13; simp +contextual [canAdd, allN_s, allN, Int32.not_lt, Int32.not_le]; omega)
          have hl19_17 : lv_has ls 4 [(0, .ref (a 0)), (1, .int d0), (2, .int (bI (decide (nR z < 10) && allN (ir + 1) (fun r => !decide (z (5 + 4 * r) = d0))))), (3, .int (nI (ir + 1)))] := lv_eqv (l1 := [(0, .ref (a 0)), (1, .int d0), (2, .int (nI 0)), (3, .int (nI (ir + 1)))]) (lv_sub hl [2, 3, 1, 0] rfl) (lv_ce rfl (lv_ce rfl (lv_ce (congrArg (fun x => Value.int (bI x)) e19_15) (lv_ce (congrArg (fun x => Value.int (nI x)) e19_16) rfl))))
          exact ih19 _ (by omega) (hl19_17)
        · have c_40_14 : ¬ ((z (5 + 4 * ir)) : Int32) = d0 := c_40_14
          refine lv_iconst (v := nI 1) hx hb dX5_canAddRow_43 (by decide) ?_
          refine lv_goto (tgt := 48) hx hb dX5_canAddRow_44 (by decide) ?_
          refine lv_istore_n (lv' := [(2, .int (nI 1)), (0, .ref (a 0)), (1, .int d0), (3, .int (nI ir))]) hx hb dX5_canAddRow_48 rfl hl (by decide) rfl (fun ls hl => ?_)
          refine lv_iinc (v := nI (ir + 1)) (lv' := [(3, .int (nI (ir + 1))), (2, .int (nI 1)), (0, .ref (a 0)), (1, .int d0)]) hx hb dX5_canAddRow_49 hl (k := 3) rfl (kx_inc 1) (by decide) rfl (fun ls hl => ?_)
          refine lv_goto (tgt := 19) hx hb dX5_canAddRow_52 (by decide) ?_
          have e19_18 : (true : Bool) = (decide (nR z < 10) && allN (ir + 1) (fun r => !decide (z (5 + 4 * r) = d0))) := by first | rfl | omega | (simp [canAdd, allN_s, allN, Int32.not_lt, Int32.not_le, c_8_0, Nat.not_lt.mpr c_8_0, c_26_5, Nat.not_le.mpr c_26_5, c_30_9, c_40_14]; done) | (simp [canAdd, allN_s, allN, Int32.not_lt, Int32.not_le, c_8_0, Nat.not_lt.mpr c_8_0, c_26_5, Nat.not_le.mpr c_26_5, c_30_9, c_40_14]; omega) | (revert c_8_0 c_26_5 c_30_9 c_40_14; simp +contextual [canAdd, allN_s, allN, Int32.not_lt, Int32.not_le]; done) | (revert c_8_0 c_26_5 c_30_9 c_40_14; simp +contextual [canAdd, allN_s, allN, Int32.not_lt, Int32.not_le]; omega)
          have e19_19 : (ir + 1 : Nat) = ((ir + 1)) := by first | rfl | omega | (simp [canAdd, allN_s, allN, Int32.not_lt, Int32.not_le, c_8_0, Nat.not_lt.mpr c_8_0, c_26_5, Nat.not_le.mpr c_26_5, c_30_9, c_40_14]; done) | (simp [canAdd, allN_s, allN, Int32.not_lt, Int32.not_le, c_8_0, Nat.not_lt.mpr c_8_0, c_26_5, Nat.not_le.mpr c_26_5, c_30_9, c_40_14]; omega) | (revert c_8_0 c_26_5 c_30_9 c_40_14; simp +contextual [canAdd, allN_s, allN, Int32.not_lt, Int32.not_le]; done) | (revert c_8_0 c_26_5 c_30_9 c_40_14; simp +contextual [canAdd, allN_s, allN, Int32.not_lt, Int32.not_le]; omega)
          have hl19_20 : lv_has ls 4 [(0, .ref (a 0)), (1, .int d0), (2, .int (bI (decide (nR z < 10) && allN (ir + 1) (fun r => !decide (z (5 + 4 * r) = d0))))), (3, .int (nI (ir + 1)))] := lv_eqv (l1 := [(0, .ref (a 0)), (1, .int d0), (2, .int (nI 1)), (3, .int (nI (ir + 1)))]) (lv_sub hl [2, 3, 1, 0] rfl) (lv_ce rfl (lv_ce rfl (lv_ce (congrArg (fun x => Value.int (bI x)) e19_18) (lv_ce (congrArg (fun x => Value.int (nI x)) e19_19) rfl))))
          exact ih19 _ (by omega) (hl19_20)
  · refine lv_iconst (v := nI 1) hx hb dX5_canAddRow_11 (by decide) ?_
    refine lv_goto (tgt := 16) hx hb dX5_canAddRow_12 (by decide) ?_
    refine lv_istore_n (lv' := [(2, .int (nI 1)), (0, .ref (a 0)), (1, .int d0)]) hx hb dX5_canAddRow_16 rfl hl (by decide) rfl (fun ls hl => ?_)
    refine lv_iconst (v := nI 0) hx hb dX5_canAddRow_17 (by decide) ?_
    refine lv_istore_n (lv' := [(3, .int (nI 0)), (2, .int (nI 1)), (0, .ref (a 0)), (1, .int d0)]) hx hb dX5_canAddRow_18 rfl hl (by decide) rfl (fun ls hl => ?_)
    have e19_21 : (true : Bool) = (decide (nR z < 10) && allN 0 (fun r => !decide (z (5 + 4 * r) = d0))) := by first | rfl | omega | (simp [canAdd, allN_s, allN, Int32.not_lt, Int32.not_le, c_8_1, Nat.not_le.mpr c_8_1]; done) | (simp [canAdd, allN_s, allN, Int32.not_lt, Int32.not_le, c_8_1, Nat.not_le.mpr c_8_1]; omega) | (revert c_8_1; simp +contextual [canAdd, allN_s, allN, Int32.not_lt, Int32.not_le]; done) | (revert c_8_1; simp +contextual [canAdd, allN_s, allN, Int32.not_lt, Int32.not_le]; omega)
    have hl19_22 : lv_has ls 4 [(0, .ref (a 0)), (1, .int d0), (2, .int (bI (decide (nR z < 10) && allN 0 (fun r => !decide (z (5 + 4 * r) = d0))))), (3, .int (nI 0))] := lv_eqv (l1 := [(0, .ref (a 0)), (1, .int d0), (2, .int (nI 1)), (3, .int (nI 0))]) (lv_sub hl [2, 3, 1, 0] rfl) (lv_ce rfl (lv_ce rfl (lv_ce (congrArg (fun x => Value.int (bI x)) e19_21) (lv_ce rfl rfl))))
    refine kx_up (fun k ls => lv_has ls 4 [(0, .ref (a 0)), (1, .int d0), (2, .int (bI (decide (nR z < 10) && allN k (fun r => !decide (z (5 + 4 * r) = d0))))), (3, .int (nI k))]) (0) (nR z) (by omega) ls (hl19_22) ?_
    intro ir ls hirl hirh hp ih19
    have hl := hp
    refine lv_iload_n hx hb dX5_canAddRow_19 rfl (lv_at hl 3 rfl) ?_
    refine lv_aload_n hx hb dX5_canAddRow_20 rfl (lv_at hl 0 rfl) ?_
    refine va_get (D := D) (ci := 5) (v := .ref (a 1)) (C := RX5) (T := TX5) (N := 12) hx hb hts iX5_canAddRow_5 hown hK hP 0 rfl rfl 0 (by decide) (hts (.fieldLink RX5 7 "HallSightsModel" "z" "[I") (List.mem_of_getElem? (i := 1) rfl)) (fun _ h9 => h9) rfl dX5_canAddRow_21 ?_
    refine lv_iconst (v := nI 3) hx hb dX5_canAddRow_24 (by decide) ?_
    refine kx_iald hx hb hK hP 1 0 rfl rfl (by omega) (by decide) dX5_canAddRow_25 ?_
    refine kx_top (wf_R hw) ?_
    refine kx_icmp_ge (tgt := 55) hx hb (by omega) (by omega) dX5_canAddRow_26 (by decide) (fun c_26_23 => ?_) (fun c_26_24 => ?_)
    · have hq25 : nR z = ir := by omega
      subst hq25
      refine lv_iload_n hx hb dX5_canAddRow_55 rfl (lv_at hl 2 rfl) ?_
      have e_26 : (decide (nR z < 10) && allN (nR z) (fun r => !decide (z (5 + 4 * r) = d0)) : Bool) = (canAdd z d0) := by first | rfl | omega | (simp [canAdd, allN_s, allN, Int32.not_lt, Int32.not_le, c_8_1, Nat.not_le.mpr c_8_1, c_26_23, Nat.not_lt.mpr c_26_23]; done) | (simp [canAdd, allN_s, allN, Int32.not_lt, Int32.not_le, c_8_1, Nat.not_le.mpr c_8_1, c_26_23, Nat.not_lt.mpr c_26_23]; omega) | (revert c_8_1 c_26_23; simp +contextual [canAdd, allN_s, allN, Int32.not_lt, Int32.not_le]; done) | (revert c_8_1 c_26_23; simp +contextual [canAdd, allN_s, allN, Int32.not_lt, Int32.not_le]; omega)
      exact kr_zret hx hb hrt hlocks (congrArg bI e_26) rfl dX5_canAddRow_56
    · refine lv_iload_n hx hb dX5_canAddRow_29 rfl (lv_at hl 2 rfl) ?_
      refine kx_if_eqb (tgt := 47) hx hb dX5_canAddRow_30 (by decide) (fun c_30_27 => ?_) (fun c_30_28 => ?_)
      · refine lv_iconst (v := nI 0) hx hb dX5_canAddRow_47 (by decide) ?_
        refine lv_istore_n (lv' := [(2, .int (nI 0)), (0, .ref (a 0)), (1, .int d0), (3, .int (nI ir))]) hx hb dX5_canAddRow_48 rfl hl (by decide) rfl (fun ls hl => ?_)
        refine lv_iinc (v := nI (ir + 1)) (lv' := [(3, .int (nI (ir + 1))), (2, .int (nI 0)), (0, .ref (a 0)), (1, .int d0)]) hx hb dX5_canAddRow_49 hl (k := 3) rfl (kx_inc 1) (by decide) rfl (fun ls hl => ?_)
        refine lv_goto (tgt := 19) hx hb dX5_canAddRow_52 (by decide) ?_
        have e19_29 : (false : Bool) = (decide (nR z < 10) && allN (ir + 1) (fun r => !decide (z (5 + 4 * r) = d0))) := by first | rfl | omega | (simp [canAdd, allN_s, allN, Int32.not_lt, Int32.not_le, c_8_1, Nat.not_le.mpr c_8_1, c_26_24, Nat.not_le.mpr c_26_24, c_30_27]; done) | (simp [canAdd, allN_s, allN, Int32.not_lt, Int32.not_le, c_8_1, Nat.not_le.mpr c_8_1, c_26_24, Nat.not_le.mpr c_26_24, c_30_27]; omega) | (revert c_8_1 c_26_24 c_30_27; simp +contextual [canAdd, allN_s, allN, Int32.not_lt, Int32.not_le]; done) | (revert c_8_1 c_26_24 c_30_27; simp +contextual [canAdd, allN_s, allN, Int32.not_lt, Int32.not_le]; omega)
        have e19_30 : (ir + 1 : Nat) = ((ir + 1)) := by first | rfl | omega | (simp [canAdd, allN_s, allN, Int32.not_lt, Int32.not_le, c_8_1, Nat.not_le.mpr c_8_1, c_26_24, Nat.not_le.mpr c_26_24, c_30_27]; done) | (simp [canAdd, allN_s, allN, Int32.not_lt, Int32.not_le, c_8_1, Nat.not_le.mpr c_8_1, c_26_24, Nat.not_le.mpr c_26_24, c_30_27]; omega) | (revert c_8_1 c_26_24 c_30_27; simp +contextual [canAdd, allN_s, allN, Int32.not_lt, Int32.not_le]; done) | (revert c_8_1 c_26_24 c_30_27; simp +contextual [canAdd, allN_s, allN, Int32.not_lt, Int32.not_le]; omega)
        have hl19_31 : lv_has ls 4 [(0, .ref (a 0)), (1, .int d0), (2, .int (bI (decide (nR z < 10) && allN (ir + 1) (fun r => !decide (z (5 + 4 * r) = d0))))), (3, .int (nI (ir + 1)))] := lv_eqv (l1 := [(0, .ref (a 0)), (1, .int d0), (2, .int (nI 0)), (3, .int (nI (ir + 1)))]) (lv_sub hl [2, 3, 1, 0] rfl) (lv_ce rfl (lv_ce rfl (lv_ce (congrArg (fun x => Value.int (bI x)) e19_29) (lv_ce (congrArg (fun x => Value.int (nI x)) e19_30) rfl))))
        exact ih19 _ (by omega) (hl19_31)
      · refine lv_aload_n hx hb dX5_canAddRow_33 rfl (lv_at hl 0 rfl) ?_
        refine lv_iload_n hx hb dX5_canAddRow_34 rfl (lv_at hl 3 rfl) ?_
        refine lv_iconst (v := nI 0) hx hb dX5_canAddRow_35 (by decide) ?_
        refine kr_V (As := [.int (nI ir), .int (nI 0)]) (rest := []) (C := RX5) (own := RX5) ⟨hx, hb, hml, hown, hts⟩ (c_X5_of l D cI cC cH cL a z zh tx pa wy st le th rd nu pt za ir 0 (by first | assumption | omega)) (cwV 2 hts gX5_canAddRow_X5_of rfl rfl rfl k_X5_of ⟨Nat.le_of_ble_eq_true rfl, Nat.le_of_ble_eq_true rfl⟩) hP hK (va_recv (q := (RX5, TX5, 12)) hK hP (ci := 5) (q0 := 0) rfl rfl) rfl hl.1 rfl (Nat.le_of_ble_eq_true rfl) dX5_canAddRow_36 ⟨Nat.le_of_ble_eq_true rfl, Nat.le_of_ble_eq_true rfl⟩ ?_
        refine lv_iload_n hx hb dX5_canAddRow_39 rfl (lv_at hl 1 rfl) ?_
        refine lv_icmp_eq (tgt := 47) hx hb dX5_canAddRow_40 (by decide) (fun c_40_32 => ?_) (fun c_40_33 => ?_)
        · have c_40_32 : ((z (5 + 4 * ir)) : Int32) = d0 := c_40_32
          refine lv_iconst (v := nI 0) hx hb dX5_canAddRow_47 (by decide) ?_
          refine lv_istore_n (lv' := [(2, .int (nI 0)), (0, .ref (a 0)), (1, .int d0), (3, .int (nI ir))]) hx hb dX5_canAddRow_48 rfl hl (by decide) rfl (fun ls hl => ?_)
          refine lv_iinc (v := nI (ir + 1)) (lv' := [(3, .int (nI (ir + 1))), (2, .int (nI 0)), (0, .ref (a 0)), (1, .int d0)]) hx hb dX5_canAddRow_49 hl (k := 3) rfl (kx_inc 1) (by decide) rfl (fun ls hl => ?_)
          refine lv_goto (tgt := 19) hx hb dX5_canAddRow_52 (by decide) ?_
          have e19_34 : (false : Bool) = (decide (nR z < 10) && allN (ir + 1) (fun r => !decide (z (5 + 4 * r) = d0))) := by first | rfl | omega | (simp [canAdd, allN_s, allN, Int32.not_lt, Int32.not_le, c_8_1, Nat.not_le.mpr c_8_1, c_26_24, Nat.not_le.mpr c_26_24, c_30_28, c_40_32]; done) | (simp [canAdd, allN_s, allN, Int32.not_lt, Int32.not_le, c_8_1, Nat.not_le.mpr c_8_1, c_26_24, Nat.not_le.mpr c_26_24, c_30_28, c_40_32]; omega) | (revert c_8_1 c_26_24 c_30_28 c_40_32; simp +contextual [canAdd, allN_s, allN, Int32.not_lt, Int32.not_le]; done) | (revert c_8_1 c_26_24 c_30_28 c_40_32; simp +contextual [canAdd, allN_s, allN, Int32.not_lt, Int32.not_le]; omega)
          have e19_35 : (ir + 1 : Nat) = ((ir + 1)) := by first | rfl | omega | (simp [canAdd, allN_s, allN, Int32.not_lt, Int32.not_le, c_8_1, Nat.not_le.mpr c_8_1, c_26_24, Nat.not_le.mpr c_26_24, c_30_28, c_40_32]; done) | (simp [canAdd, allN_s, allN, Int32.not_lt, Int32.not_le, c_8_1, Nat.not_le.mpr c_8_1, c_26_24, Nat.not_le.mpr c_26_24, c_30_28, c_40_32]; omega) | (revert c_8_1 c_26_24 c_30_28 c_40_32; simp +contextual [canAdd, allN_s, allN, Int32.not_lt, Int32.not_le]; done) | (revert c_8_1 c_26_24 c_30_28 c_40_32; simp +contextual [canAdd, allN_s, allN, Int32.not_lt, Int32.not_le]; omega)
          have hl19_36 : lv_has ls 4 [(0, .ref (a 0)), (1, .int d0), (2, .int (bI (decide (nR z < 10) && allN (ir + 1) (fun r => !decide (z (5 + 4 * r) = d0))))), (3, .int (nI (ir + 1)))] := lv_eqv (l1 := [(0, .ref (a 0)), (1, .int d0), (2, .int (nI 0)), (3, .int (nI (ir + 1)))]) (lv_sub hl [2, 3, 1, 0] rfl) (lv_ce rfl (lv_ce rfl (lv_ce (congrArg (fun x => Value.int (bI x)) e19_34) (lv_ce (congrArg (fun x => Value.int (nI x)) e19_35) rfl))))
          exact ih19 _ (by omega) (hl19_36)
        · have c_40_33 : ¬ ((z (5 + 4 * ir)) : Int32) = d0 := c_40_33
          refine lv_iconst (v := nI 1) hx hb dX5_canAddRow_43 (by decide) ?_
          refine lv_goto (tgt := 48) hx hb dX5_canAddRow_44 (by decide) ?_
          refine lv_istore_n (lv' := [(2, .int (nI 1)), (0, .ref (a 0)), (1, .int d0), (3, .int (nI ir))]) hx hb dX5_canAddRow_48 rfl hl (by decide) rfl (fun ls hl => ?_)
          refine lv_iinc (v := nI (ir + 1)) (lv' := [(3, .int (nI (ir + 1))), (2, .int (nI 1)), (0, .ref (a 0)), (1, .int d0)]) hx hb dX5_canAddRow_49 hl (k := 3) rfl (kx_inc 1) (by decide) rfl (fun ls hl => ?_)
          refine lv_goto (tgt := 19) hx hb dX5_canAddRow_52 (by decide) ?_
          have e19_37 : (true : Bool) = (decide (nR z < 10) && allN (ir + 1) (fun r => !decide (z (5 + 4 * r) = d0))) := by first | rfl | omega | (simp [canAdd, allN_s, allN, Int32.not_lt, Int32.not_le, c_8_1, Nat.not_le.mpr c_8_1, c_26_24, Nat.not_le.mpr c_26_24, c_30_28, c_40_33]; done) | (simp [canAdd, allN_s, allN, Int32.not_lt, Int32.not_le, c_8_1, Nat.not_le.mpr c_8_1, c_26_24, Nat.not_le.mpr c_26_24, c_30_28, c_40_33]; omega) | (revert c_8_1 c_26_24 c_30_28 c_40_33; simp +contextual [canAdd, allN_s, allN, Int32.not_lt, Int32.not_le]; done) | (revert c_8_1 c_26_24 c_30_28 c_40_33; simp +contextual [canAdd, allN_s, allN, Int32.not_lt, Int32.not_le]; omega)
          have e19_38 : (ir + 1 : Nat) = ((ir + 1)) := by first | rfl | omega | (simp [canAdd, allN_s, allN, Int32.not_lt, Int32.not_le, c_8_1, Nat.not_le.mpr c_8_1, c_26_24, Nat.not_le.mpr c_26_24, c_30_28, c_40_33]; done) | (simp [canAdd, allN_s, allN, Int32.not_lt, Int32.not_le, c_8_1, Nat.not_le.mpr c_8_1, c_26_24, Nat.not_le.mpr c_26_24, c_30_28, c_40_33]; omega) | (revert c_8_1 c_26_24 c_30_28 c_40_33; simp +contextual [canAdd, allN_s, allN, Int32.not_lt, Int32.not_le]; done) | (revert c_8_1 c_26_24 c_30_28 c_40_33; simp +contextual [canAdd, allN_s, allN, Int32.not_lt, Int32.not_le]; omega)
          have hl19_39 : lv_has ls 4 [(0, .ref (a 0)), (1, .int d0), (2, .int (bI (decide (nR z < 10) && allN (ir + 1) (fun r => !decide (z (5 + 4 * r) = d0))))), (3, .int (nI (ir + 1)))] := lv_eqv (l1 := [(0, .ref (a 0)), (1, .int d0), (2, .int (nI 1)), (3, .int (nI (ir + 1)))]) (lv_sub hl [2, 3, 1, 0] rfl) (lv_ce rfl (lv_ce rfl (lv_ce (congrArg (fun x => Value.int (bI x)) e19_37) (lv_ce (congrArg (fun x => Value.int (nI x)) e19_38) rfl))))
          exact ih19 _ (by omega) (hl19_39)
set_option maxRecDepth 20000 in
theorem iX5_allSeats_5 : ∀ w ∈ wsX50, w ∈ wsX5_allSeats := by decide +kernel
set_option maxHeartbeats 4000000 in
set_option maxRecDepth 100000 in
theorem c_X5_allSeats (l : Launch) (D : va_G) (cI cC cH cL : ClassId) (a : Nat → Nat) (z zh tx pa wy : ZZ) (st le th rd nu pt : Int32) (za : Int64)  (hw : WF z) : Met l yX5_allSeats wsX5_allSeats ({ frames := 1, cells := 0, slots := 0, locals := 22 }) (kp [.ref (a 0)] D (MW a cI z st zh le tx th pa rd nu pt wy za) (kT cI cC cH cL)) (kr (.returned (some (.int (nI (seatsAll z)))))) 0 0 (fun _ => False) := by
  refine Met.ofW (cc := cX5_allSeats) (maxL := 3) (ret := (some .int)) (by decide) rfl ?_
  intro p e s m args below meth c s₁ B hml hv
  obtain ⟨rfl, hP, hK⟩ := hv
  have hx := B.exec
  have hb := B.bytes
  have hrt := B.returns
  have hts := atoms_spec (ws := wsX5_allSeats) B.pre
  have hown : s.vm.findClass RX5 = some m.cls := findClass_of_methodNamed B.named
  have hlocks := B.notSynchronized
  have hl := lv_entry ([.ref (a 0)]) (n := 3) (Nat.le_of_ble_eq_true rfl)
  rw [lg_entry_eq]
  generalize (lg_sl ([.ref (a 0)]) ++ List.replicate (3 - (lg_sl ([.ref (a 0)])).length) Slot.unset).toArray = ls at hl ⊢
  have hl : lv_has ls 3 [(0, .ref (a 0))] := hl
  have hR10 := wf_R10 hw
  have hC4 := wf_C4 hw
  refine lv_iconst (v := nI 0) hx hb dX5_allSeats_0 (by decide) ?_
  refine lv_istore_n (lv' := [(1, .int (nI 0)), (0, .ref (a 0))]) hx hb dX5_allSeats_1 rfl hl (by decide) rfl (fun ls hl => ?_)
  refine lv_iconst (v := nI 0) hx hb dX5_allSeats_2 (by decide) ?_
  refine lv_istore_n (lv' := [(2, .int (nI 0)), (1, .int (nI 0)), (0, .ref (a 0))]) hx hb dX5_allSeats_3 rfl hl (by decide) rfl (fun ls hl => ?_)
  have e4_0 : (0 : Nat) = (sumN 0 (fun r => nS z r)) := by first | rfl | omega | (simp [seatsAll, sumN_s, Int32.not_lt, Int32.not_le]; done) | (simp [seatsAll, sumN_s, Int32.not_lt, Int32.not_le]; omega)
  have hl4_1 : lv_has ls 3 [(0, .ref (a 0)), (1, .int (nI (sumN 0 (fun r => nS z r)))), (2, .int (nI 0))] := lv_eqv (l1 := [(0, .ref (a 0)), (1, .int (nI 0)), (2, .int (nI 0))]) (lv_sub hl [2, 1, 0] rfl) (lv_ce rfl (lv_ce (congrArg (fun x => Value.int (nI x)) e4_0) (lv_ce rfl rfl)))
  refine kx_up (fun k ls => lv_has ls 3 [(0, .ref (a 0)), (1, .int (nI (sumN k (fun r => nS z r)))), (2, .int (nI k))]) (0) (nR z) (by omega) ls (hl4_1) ?_
  intro ir ls hirl hirh hp ih4
  have hl := hp
  refine lv_iload_n hx hb dX5_allSeats_4 rfl (lv_at hl 2 rfl) ?_
  refine lv_aload_n hx hb dX5_allSeats_5 rfl (lv_at hl 0 rfl) ?_
  refine va_get (D := D) (ci := 5) (v := .ref (a 1)) (C := RX5) (T := TX5) (N := 12) hx hb hts iX5_allSeats_5 hown hK hP 0 rfl rfl 0 (by decide) (hts (.fieldLink RX5 7 "HallSightsModel" "z" "[I") (List.mem_of_getElem? (i := 1) rfl)) (fun _ h9 => h9) rfl dX5_allSeats_6 ?_
  refine lv_iconst (v := nI 3) hx hb dX5_allSeats_9 (by decide) ?_
  refine kx_iald hx hb hK hP 1 0 rfl rfl (by omega) (by decide) dX5_allSeats_10 ?_
  refine kx_top (wf_R hw) ?_
  refine kx_icmp_ge (tgt := 29) hx hb (by omega) (by omega) dX5_allSeats_11 (by decide) (fun c_11_2 => ?_) (fun c_11_3 => ?_)
  · have hq4 : nR z = ir := by omega
    subst hq4
    refine lv_iload_n hx hb dX5_allSeats_29 rfl (lv_at hl 1 rfl) ?_
    have e_5 : (sumN (nR z) (fun r => nS z r) : Nat) = (seatsAll z) := by first | rfl | omega | (simp [seatsAll, sumN_s, Int32.not_lt, Int32.not_le, c_11_2, Nat.not_lt.mpr c_11_2]; done) | (simp [seatsAll, sumN_s, Int32.not_lt, Int32.not_le, c_11_2, Nat.not_lt.mpr c_11_2]; omega) | (revert c_11_2; simp +contextual [seatsAll, sumN_s, Int32.not_lt, Int32.not_le]; done) | (revert c_11_2; simp +contextual [seatsAll, sumN_s, Int32.not_lt, Int32.not_le]; omega)
    exact kr_iret hx hb hrt hlocks (congrArg nI e_5) rfl dX5_allSeats_30
  · refine lv_iload_n hx hb dX5_allSeats_14 rfl (lv_at hl 1 rfl) ?_
    refine lv_aload_n hx hb dX5_allSeats_15 rfl (lv_at hl 0 rfl) ?_
    refine lv_iload_n hx hb dX5_allSeats_16 rfl (lv_at hl 2 rfl) ?_
    refine lv_iconst (v := nI 2) hx hb dX5_allSeats_17 (by decide) ?_
    refine kr_V (As := [.int (nI ir), .int (nI 2)]) (rest := [.int (nI (sumN ir (fun r => nS z r)))]) (C := RX5) (own := RX5) ⟨hx, hb, hml, hown, hts⟩ (c_X5_of l D cI cC cH cL a z zh tx pa wy st le th rd nu pt za ir 2 (by first | assumption | omega)) (cwV 2 hts gX5_allSeats_X5_of rfl rfl rfl k_X5_of ⟨Nat.le_of_ble_eq_true rfl, Nat.le_of_ble_eq_true rfl⟩) hP hK (va_recv (q := (RX5, TX5, 12)) hK hP (ci := 5) (q0 := 0) rfl rfl) rfl hl.1 rfl (Nat.le_of_ble_eq_true rfl) dX5_allSeats_18 ⟨Nat.le_of_ble_eq_true rfl, Nat.le_of_ble_eq_true rfl⟩ ?_
    refine kx_top (wf_S hw (show (ir) < nR z by omega)) ?_
    have hS12_6 := wf_S12 hw (show (ir) < nR z by omega)
    refine kx_iadd hx hb dX5_allSeats_21 ?_
    refine lv_istore_n (lv' := [(1, .int (nI ((sumN ir (fun r => nS z r)) + (nS z (ir))))), (0, .ref (a 0)), (2, .int (nI ir))]) hx hb dX5_allSeats_22 rfl hl (by decide) rfl (fun ls hl => ?_)
    refine lv_iinc (v := nI (ir + 1)) (lv' := [(2, .int (nI (ir + 1))), (1, .int (nI ((sumN ir (fun r => nS z r)) + (nS z (ir))))), (0, .ref (a 0))]) hx hb dX5_allSeats_23 hl (k := 2) rfl (kx_inc 1) (by decide) rfl (fun ls hl => ?_)
    refine lv_goto (tgt := 4) hx hb dX5_allSeats_26 (by decide) ?_
    have e4_7 : ((sumN ir (fun r => nS z r)) + (nS z (ir)) : Nat) = (sumN (ir + 1) (fun r => nS z r)) := by first | rfl | omega | (simp [seatsAll, sumN_s, Int32.not_lt, Int32.not_le, c_11_3, Nat.not_le.mpr c_11_3]; done) | (simp [seatsAll, sumN_s, Int32.not_lt, Int32.not_le, c_11_3, Nat.not_le.mpr c_11_3]; omega) | (revert c_11_3; simp +contextual [seatsAll, sumN_s, Int32.not_lt, Int32.not_le]; done) | (revert c_11_3; simp +contextual [seatsAll, sumN_s, Int32.not_lt, Int32.not_le]; omega)
    have e4_8 : (ir + 1 : Nat) = ((ir + 1)) := by first | rfl | omega | (simp [seatsAll, sumN_s, Int32.not_lt, Int32.not_le, c_11_3, Nat.not_le.mpr c_11_3]; done) | (simp [seatsAll, sumN_s, Int32.not_lt, Int32.not_le, c_11_3, Nat.not_le.mpr c_11_3]; omega) | (revert c_11_3; simp +contextual [seatsAll, sumN_s, Int32.not_lt, Int32.not_le]; done) | (revert c_11_3; simp +contextual [seatsAll, sumN_s, Int32.not_lt, Int32.not_le]; omega)
    have hl4_9 : lv_has ls 3 [(0, .ref (a 0)), (1, .int (nI (sumN (ir + 1) (fun r => nS z r)))), (2, .int (nI (ir + 1)))] := lv_eqv (l1 := [(0, .ref (a 0)), (1, .int (nI ((sumN ir (fun r => nS z r)) + (nS z (ir))))), (2, .int (nI (ir + 1)))]) (lv_sub hl [2, 1, 0] rfl) (lv_ce rfl (lv_ce (congrArg (fun x => Value.int (nI x)) e4_7) (lv_ce (congrArg (fun x => Value.int (nI x)) e4_8) rfl)))
    exact ih4 _ (by omega) (hl4_9)
set_option maxHeartbeats 4000000 in
set_option maxRecDepth 100000 in
theorem c_X5_takenIn (l : Launch) (D : va_G) (cI cC cH cL : ClassId) (a : Nat → Nat) (z zh tx pa wy : ZZ) (st le th rd nu pt : Int32) (za : Int64) (r0 : Nat) (hw : WF z) (hr : r0 < nR z) : Met l yX5_takenIn wsX5_takenIn ({ frames := 2, cells := 0, slots := 0, locals := 44 }) (kp [.ref (a 0), .int (nI r0)] D (MW a cI z st zh le tx th pa rd nu pt wy za) (kT cI cC cH cL)) (kr (.returned (some (.int (nI (takenIn z r0)))))) 0 0 (fun _ => False) := by
  refine Met.ofW (cc := cX5_takenIn) (maxL := 4) (ret := (some .int)) (by decide) rfl ?_
  intro p e s m args below meth c s₁ B hml hv
  obtain ⟨rfl, hP, hK⟩ := hv
  have hx := B.exec
  have hb := B.bytes
  have hrt := B.returns
  have hts := atoms_spec (ws := wsX5_takenIn) B.pre
  have hown : s.vm.findClass RX5 = some m.cls := findClass_of_methodNamed B.named
  have hlocks := B.notSynchronized
  have hl := lv_entry ([.ref (a 0), .int (nI r0)]) (n := 4) (Nat.le_of_ble_eq_true rfl)
  rw [lg_entry_eq]
  generalize (lg_sl ([.ref (a 0), .int (nI r0)]) ++ List.replicate (4 - (lg_sl ([.ref (a 0), .int (nI r0)])).length) Slot.unset).toArray = ls at hl ⊢
  have hl : lv_has ls 4 [(0, .ref (a 0)), (1, .int (nI r0))] := hl
  have hR10 := wf_R10 hw
  have hC4 := wf_C4 hw
  have hS := wf_S12 hw hr
  refine lv_iconst (v := nI 0) hx hb dX5_takenIn_0 (by decide) ?_
  refine lv_istore_n (lv' := [(2, .int (nI 0)), (0, .ref (a 0)), (1, .int (nI r0))]) hx hb dX5_takenIn_1 rfl hl (by decide) rfl (fun ls hl => ?_)
  refine lv_iconst (v := nI 0) hx hb dX5_takenIn_2 (by decide) ?_
  refine lv_istore_n (lv' := [(3, .int (nI 0)), (2, .int (nI 0)), (0, .ref (a 0)), (1, .int (nI r0))]) hx hb dX5_takenIn_3 rfl hl (by decide) rfl (fun ls hl => ?_)
  have e4_0 : (0 : Nat) = (sumN 0 (fun w => b2 (tk z r0 w))) := by first | rfl | omega | (simp [takenIn, sumN_s, b2, Int32.not_lt, Int32.not_le]; done) | (simp [takenIn, sumN_s, b2, Int32.not_lt, Int32.not_le]; omega)
  have hl4_1 : lv_has ls 4 [(0, .ref (a 0)), (1, .int (nI r0)), (2, .int (nI (sumN 0 (fun w => b2 (tk z r0 w))))), (3, .int (nI 0))] := lv_eqv (l1 := [(0, .ref (a 0)), (1, .int (nI r0)), (2, .int (nI 0)), (3, .int (nI 0))]) (lv_sub hl [2, 3, 1, 0] rfl) (lv_ce rfl (lv_ce rfl (lv_ce (congrArg (fun x => Value.int (nI x)) e4_0) (lv_ce rfl rfl))))
  refine kx_up (fun k ls => lv_has ls 4 [(0, .ref (a 0)), (1, .int (nI r0)), (2, .int (nI (sumN k (fun w => b2 (tk z r0 w))))), (3, .int (nI k))]) (0) (nS z r0) (by omega) ls (hl4_1) ?_
  intro iw ls hiwl hiwh hp ih4
  have hl := hp
  refine lv_iload_n hx hb dX5_takenIn_4 rfl (lv_at hl 3 rfl) ?_
  refine lv_aload_n hx hb dX5_takenIn_5 rfl (lv_at hl 0 rfl) ?_
  refine lv_iload_n hx hb dX5_takenIn_6 rfl (lv_at hl 1 rfl) ?_
  refine lv_iconst (v := nI 2) hx hb dX5_takenIn_7 (by decide) ?_
  refine kr_V (As := [.int (nI r0), .int (nI 2)]) (rest := [.int (nI iw)]) (C := RX5) (own := RX5) ⟨hx, hb, hml, hown, hts⟩ (c_X5_of l D cI cC cH cL a z zh tx pa wy st le th rd nu pt za r0 2 (by first | assumption | omega)) (cwV 2 hts gX5_takenIn_X5_of rfl rfl rfl k_X5_of ⟨Nat.le_of_ble_eq_true rfl, Nat.le_of_ble_eq_true rfl⟩) hP hK (va_recv (q := (RX5, TX5, 12)) hK hP (ci := 5) (q0 := 0) rfl rfl) rfl hl.1 rfl (Nat.le_of_ble_eq_true rfl) dX5_takenIn_8 ⟨Nat.le_of_ble_eq_true rfl, Nat.le_of_ble_eq_true rfl⟩ ?_
  refine kx_top (wf_S hw (show (r0) < nR z by omega)) ?_
  have hS12_2 := wf_S12 hw (show (r0) < nR z by omega)
  refine kx_icmp_ge (tgt := 37) hx hb (by omega) (by omega) dX5_takenIn_11 (by decide) (fun c_11_3 => ?_) (fun c_11_4 => ?_)
  · have hq5 : nS z r0 = iw := by omega
    subst hq5
    refine lv_iload_n hx hb dX5_takenIn_37 rfl (lv_at hl 2 rfl) ?_
    have e_6 : (sumN (nS z r0) (fun w => b2 (tk z r0 w)) : Nat) = (takenIn z r0) := by first | rfl | omega | (simp [takenIn, sumN_s, b2, Int32.not_lt, Int32.not_le, c_11_3, Nat.not_lt.mpr c_11_3]; done) | (simp [takenIn, sumN_s, b2, Int32.not_lt, Int32.not_le, c_11_3, Nat.not_lt.mpr c_11_3]; omega) | (revert c_11_3; simp +contextual [takenIn, sumN_s, b2, Int32.not_lt, Int32.not_le]; done) | (revert c_11_3; simp +contextual [takenIn, sumN_s, b2, Int32.not_lt, Int32.not_le]; omega)
    exact kr_iret hx hb hrt hlocks (congrArg nI e_6) rfl dX5_takenIn_38
  · refine lv_iload_n hx hb dX5_takenIn_14 rfl (lv_at hl 2 rfl) ?_
    refine lv_aload_n hx hb dX5_takenIn_15 rfl (lv_at hl 0 rfl) ?_
    refine lv_iload_n hx hb dX5_takenIn_16 rfl (lv_at hl 1 rfl) ?_
    refine lv_iload_n hx hb dX5_takenIn_17 rfl (lv_at hl 3 rfl) ?_
    refine kr_V (As := [.int (nI r0), .int (nI iw)]) (rest := [.int (nI (sumN iw (fun w => b2 (tk z r0 w))))]) (C := RX5) (own := RX5) ⟨hx, hb, hml, hown, hts⟩ (c_X5_isTaken l D cI cC cH cL a z zh tx pa wy st le th rd nu pt za r0 iw (by first | assumption | omega)) (cwV 2 hts gX5_takenIn_X5_isTaken rfl rfl rfl k_X5_isTaken ⟨Nat.le_of_ble_eq_true rfl, Nat.le_of_ble_eq_true rfl⟩) hP hK (va_recv (q := (RX5, TX5, 12)) hK hP (ci := 5) (q0 := 0) rfl rfl) rfl hl.1 rfl (Nat.le_of_ble_eq_true rfl) dX5_takenIn_18 ⟨Nat.le_of_ble_eq_true rfl, Nat.le_of_ble_eq_true rfl⟩ ?_
    refine kx_if_eqb (tgt := 28) hx hb dX5_takenIn_21 (by decide) (fun c_21_7 => ?_) (fun c_21_8 => ?_)
    · refine lv_iconst (v := nI 0) hx hb dX5_takenIn_28 (by decide) ?_
      refine kx_iadd hx hb dX5_takenIn_29 ?_
      refine lv_istore_n (lv' := [(2, .int (nI ((sumN iw (fun w => b2 (tk z r0 w))) + 0))), (0, .ref (a 0)), (1, .int (nI r0)), (3, .int (nI iw))]) hx hb dX5_takenIn_30 rfl hl (by decide) rfl (fun ls hl => ?_)
      refine lv_iinc (v := nI (iw + 1)) (lv' := [(3, .int (nI (iw + 1))), (2, .int (nI ((sumN iw (fun w => b2 (tk z r0 w))) + 0))), (0, .ref (a 0)), (1, .int (nI r0))]) hx hb dX5_takenIn_31 hl (k := 3) rfl (kx_inc 1) (by decide) rfl (fun ls hl => ?_)
      refine lv_goto (tgt := 4) hx hb dX5_takenIn_34 (by decide) ?_
      have e4_9 : ((sumN iw (fun w => b2 (tk z r0 w))) + 0 : Nat) = (sumN (iw + 1) (fun w => b2 (tk z r0 w))) := by first | rfl | omega | (simp [takenIn, sumN_s, b2, Int32.not_lt, Int32.not_le, c_11_4, Nat.not_le.mpr c_11_4, c_21_7]; done) | (simp [takenIn, sumN_s, b2, Int32.not_lt, Int32.not_le, c_11_4, Nat.not_le.mpr c_11_4, c_21_7]; omega) | (revert c_11_4 c_21_7; simp +contextual [takenIn, sumN_s, b2, Int32.not_lt, Int32.not_le]; done) | (revert c_11_4 c_21_7; simp +contextual [takenIn, sumN_s, b2, Int32.not_lt, Int32.not_le]; omega)
      have e4_10 : (iw + 1 : Nat) = ((iw + 1)) := by first | rfl | omega | (simp [takenIn, sumN_s, b2, Int32.not_lt, Int32.not_le, c_11_4, Nat.not_le.mpr c_11_4, c_21_7]; done) | (simp [takenIn, sumN_s, b2, Int32.not_lt, Int32.not_le, c_11_4, Nat.not_le.mpr c_11_4, c_21_7]; omega) | (revert c_11_4 c_21_7; simp +contextual [takenIn, sumN_s, b2, Int32.not_lt, Int32.not_le]; done) | (revert c_11_4 c_21_7; simp +contextual [takenIn, sumN_s, b2, Int32.not_lt, Int32.not_le]; omega)
      have hl4_11 : lv_has ls 4 [(0, .ref (a 0)), (1, .int (nI r0)), (2, .int (nI (sumN (iw + 1) (fun w => b2 (tk z r0 w))))), (3, .int (nI (iw + 1)))] := lv_eqv (l1 := [(0, .ref (a 0)), (1, .int (nI r0)), (2, .int (nI ((sumN iw (fun w => b2 (tk z r0 w))) + 0))), (3, .int (nI (iw + 1)))]) (lv_sub hl [2, 3, 1, 0] rfl) (lv_ce rfl (lv_ce rfl (lv_ce (congrArg (fun x => Value.int (nI x)) e4_9) (lv_ce (congrArg (fun x => Value.int (nI x)) e4_10) rfl))))
      exact ih4 _ (by omega) (hl4_11)
    · refine lv_iconst (v := nI 1) hx hb dX5_takenIn_24 (by decide) ?_
      refine lv_goto (tgt := 29) hx hb dX5_takenIn_25 (by decide) ?_
      refine kx_iadd hx hb dX5_takenIn_29 ?_
      refine lv_istore_n (lv' := [(2, .int (nI ((sumN iw (fun w => b2 (tk z r0 w))) + 1))), (0, .ref (a 0)), (1, .int (nI r0)), (3, .int (nI iw))]) hx hb dX5_takenIn_30 rfl hl (by decide) rfl (fun ls hl => ?_)
      refine lv_iinc (v := nI (iw + 1)) (lv' := [(3, .int (nI (iw + 1))), (2, .int (nI ((sumN iw (fun w => b2 (tk z r0 w))) + 1))), (0, .ref (a 0)), (1, .int (nI r0))]) hx hb dX5_takenIn_31 hl (k := 3) rfl (kx_inc 1) (by decide) rfl (fun ls hl => ?_)
      refine lv_goto (tgt := 4) hx hb dX5_takenIn_34 (by decide) ?_
      have e4_12 : ((sumN iw (fun w => b2 (tk z r0 w))) + 1 : Nat) = (sumN (iw + 1) (fun w => b2 (tk z r0 w))) := by first | rfl | omega | (simp [takenIn, sumN_s, b2, Int32.not_lt, Int32.not_le, c_11_4, Nat.not_le.mpr c_11_4, c_21_8]; done) | (simp [takenIn, sumN_s, b2, Int32.not_lt, Int32.not_le, c_11_4, Nat.not_le.mpr c_11_4, c_21_8]; omega) | (revert c_11_4 c_21_8; simp +contextual [takenIn, sumN_s, b2, Int32.not_lt, Int32.not_le]; done) | (revert c_11_4 c_21_8; simp +contextual [takenIn, sumN_s, b2, Int32.not_lt, Int32.not_le]; omega)
      have e4_13 : (iw + 1 : Nat) = ((iw + 1)) := by first | rfl | omega | (simp [takenIn, sumN_s, b2, Int32.not_lt, Int32.not_le, c_11_4, Nat.not_le.mpr c_11_4, c_21_8]; done) | (simp [takenIn, sumN_s, b2, Int32.not_lt, Int32.not_le, c_11_4, Nat.not_le.mpr c_11_4, c_21_8]; omega) | (revert c_11_4 c_21_8; simp +contextual [takenIn, sumN_s, b2, Int32.not_lt, Int32.not_le]; done) | (revert c_11_4 c_21_8; simp +contextual [takenIn, sumN_s, b2, Int32.not_lt, Int32.not_le]; omega)
      have hl4_14 : lv_has ls 4 [(0, .ref (a 0)), (1, .int (nI r0)), (2, .int (nI (sumN (iw + 1) (fun w => b2 (tk z r0 w))))), (3, .int (nI (iw + 1)))] := lv_eqv (l1 := [(0, .ref (a 0)), (1, .int (nI r0)), (2, .int (nI ((sumN iw (fun w => b2 (tk z r0 w))) + 1))), (3, .int (nI (iw + 1)))]) (lv_sub hl [2, 3, 1, 0] rfl) (lv_ce rfl (lv_ce rfl (lv_ce (congrArg (fun x => Value.int (nI x)) e4_12) (lv_ce (congrArg (fun x => Value.int (nI x)) e4_13) rfl))))
      exact ih4 _ (by omega) (hl4_14)
set_option maxRecDepth 20000 in
theorem iX5_allTaken_5 : ∀ w ∈ wsX50, w ∈ wsX5_allTaken := by decide +kernel
set_option maxHeartbeats 4000000 in
set_option maxRecDepth 100000 in
theorem c_X5_allTaken (l : Launch) (D : va_G) (cI cC cH cL : ClassId) (a : Nat → Nat) (z zh tx pa wy : ZZ) (st le th rd nu pt : Int32) (za : Int64)  (hw : WF z) : Met l yX5_allTaken wsX5_allTaken ({ frames := 3, cells := 0, slots := 0, locals := 67 }) (kp [.ref (a 0)] D (MW a cI z st zh le tx th pa rd nu pt wy za) (kT cI cC cH cL)) (kr (.returned (some (.int (nI (takenAll z)))))) 0 0 (fun _ => False) := by
  refine Met.ofW (cc := cX5_allTaken) (maxL := 3) (ret := (some .int)) (by decide) rfl ?_
  intro p e s m args below meth c s₁ B hml hv
  obtain ⟨rfl, hP, hK⟩ := hv
  have hx := B.exec
  have hb := B.bytes
  have hrt := B.returns
  have hts := atoms_spec (ws := wsX5_allTaken) B.pre
  have hown : s.vm.findClass RX5 = some m.cls := findClass_of_methodNamed B.named
  have hlocks := B.notSynchronized
  have hl := lv_entry ([.ref (a 0)]) (n := 3) (Nat.le_of_ble_eq_true rfl)
  rw [lg_entry_eq]
  generalize (lg_sl ([.ref (a 0)]) ++ List.replicate (3 - (lg_sl ([.ref (a 0)])).length) Slot.unset).toArray = ls at hl ⊢
  have hl : lv_has ls 3 [(0, .ref (a 0))] := hl
  have hR10 := wf_R10 hw
  have hC4 := wf_C4 hw
  refine lv_iconst (v := nI 0) hx hb dX5_allTaken_0 (by decide) ?_
  refine lv_istore_n (lv' := [(1, .int (nI 0)), (0, .ref (a 0))]) hx hb dX5_allTaken_1 rfl hl (by decide) rfl (fun ls hl => ?_)
  refine lv_iconst (v := nI 0) hx hb dX5_allTaken_2 (by decide) ?_
  refine lv_istore_n (lv' := [(2, .int (nI 0)), (1, .int (nI 0)), (0, .ref (a 0))]) hx hb dX5_allTaken_3 rfl hl (by decide) rfl (fun ls hl => ?_)
  have e4_0 : (0 : Nat) = (sumN 0 (fun r => takenIn z r)) := by first | rfl | omega | (simp [takenAll, sumN_s, Int32.not_lt, Int32.not_le]; done) | (simp [takenAll, sumN_s, Int32.not_lt, Int32.not_le]; omega)
  have hl4_1 : lv_has ls 3 [(0, .ref (a 0)), (1, .int (nI (sumN 0 (fun r => takenIn z r)))), (2, .int (nI 0))] := lv_eqv (l1 := [(0, .ref (a 0)), (1, .int (nI 0)), (2, .int (nI 0))]) (lv_sub hl [2, 1, 0] rfl) (lv_ce rfl (lv_ce (congrArg (fun x => Value.int (nI x)) e4_0) (lv_ce rfl rfl)))
  refine kx_up (fun k ls => lv_has ls 3 [(0, .ref (a 0)), (1, .int (nI (sumN k (fun r => takenIn z r)))), (2, .int (nI k))]) (0) (nR z) (by omega) ls (hl4_1) ?_
  intro ir ls hirl hirh hp ih4
  have hl := hp
  refine lv_iload_n hx hb dX5_allTaken_4 rfl (lv_at hl 2 rfl) ?_
  refine lv_aload_n hx hb dX5_allTaken_5 rfl (lv_at hl 0 rfl) ?_
  refine va_get (D := D) (ci := 5) (v := .ref (a 1)) (C := RX5) (T := TX5) (N := 12) hx hb hts iX5_allTaken_5 hown hK hP 0 rfl rfl 0 (by decide) (hts (.fieldLink RX5 7 "HallSightsModel" "z" "[I") (List.mem_of_getElem? (i := 1) rfl)) (fun _ h9 => h9) rfl dX5_allTaken_6 ?_
  refine lv_iconst (v := nI 3) hx hb dX5_allTaken_9 (by decide) ?_
  refine kx_iald hx hb hK hP 1 0 rfl rfl (by omega) (by decide) dX5_allTaken_10 ?_
  refine kx_top (wf_R hw) ?_
  refine kx_icmp_ge (tgt := 28) hx hb (by omega) (by omega) dX5_allTaken_11 (by decide) (fun c_11_2 => ?_) (fun c_11_3 => ?_)
  · have hq4 : nR z = ir := by omega
    subst hq4
    refine lv_iload_n hx hb dX5_allTaken_28 rfl (lv_at hl 1 rfl) ?_
    have e_5 : (sumN (nR z) (fun r => takenIn z r) : Nat) = (takenAll z) := by first | rfl | omega | (simp [takenAll, sumN_s, Int32.not_lt, Int32.not_le, c_11_2, Nat.not_lt.mpr c_11_2]; done) | (simp [takenAll, sumN_s, Int32.not_lt, Int32.not_le, c_11_2, Nat.not_lt.mpr c_11_2]; omega) | (revert c_11_2; simp +contextual [takenAll, sumN_s, Int32.not_lt, Int32.not_le]; done) | (revert c_11_2; simp +contextual [takenAll, sumN_s, Int32.not_lt, Int32.not_le]; omega)
    exact kr_iret hx hb hrt hlocks (congrArg nI e_5) rfl dX5_allTaken_29
  · refine lv_iload_n hx hb dX5_allTaken_14 rfl (lv_at hl 1 rfl) ?_
    refine lv_aload_n hx hb dX5_allTaken_15 rfl (lv_at hl 0 rfl) ?_
    refine lv_iload_n hx hb dX5_allTaken_16 rfl (lv_at hl 2 rfl) ?_
    refine kr_V (As := [.int (nI ir)]) (rest := [.int (nI (sumN ir (fun r => takenIn z r)))]) (C := RX5) (own := RX5) ⟨hx, hb, hml, hown, hts⟩ (c_X5_takenIn l D cI cC cH cL a z zh tx pa wy st le th rd nu pt za ir (by first | assumption | omega) (by first | assumption | omega)) (cwV 1 hts gX5_allTaken_X5_takenIn rfl rfl rfl k_X5_takenIn ⟨Nat.le_of_ble_eq_true rfl, Nat.le_of_ble_eq_true rfl⟩) hP hK (va_recv (q := (RX5, TX5, 12)) hK hP (ci := 5) (q0 := 0) rfl rfl) rfl hl.1 rfl (Nat.le_of_ble_eq_true rfl) dX5_allTaken_17 ⟨Nat.le_of_ble_eq_true rfl, Nat.le_of_ble_eq_true rfl⟩ ?_
    refine kx_iadd hx hb dX5_allTaken_20 ?_
    refine lv_istore_n (lv' := [(1, .int (nI ((sumN ir (fun r => takenIn z r)) + (takenIn z ir)))), (0, .ref (a 0)), (2, .int (nI ir))]) hx hb dX5_allTaken_21 rfl hl (by decide) rfl (fun ls hl => ?_)
    refine lv_iinc (v := nI (ir + 1)) (lv' := [(2, .int (nI (ir + 1))), (1, .int (nI ((sumN ir (fun r => takenIn z r)) + (takenIn z ir)))), (0, .ref (a 0))]) hx hb dX5_allTaken_22 hl (k := 2) rfl (kx_inc 1) (by decide) rfl (fun ls hl => ?_)
    refine lv_goto (tgt := 4) hx hb dX5_allTaken_25 (by decide) ?_
    have e4_6 : ((sumN ir (fun r => takenIn z r)) + (takenIn z ir) : Nat) = (sumN (ir + 1) (fun r => takenIn z r)) := by first | rfl | omega | (simp [takenAll, sumN_s, Int32.not_lt, Int32.not_le, c_11_3, Nat.not_le.mpr c_11_3]; done) | (simp [takenAll, sumN_s, Int32.not_lt, Int32.not_le, c_11_3, Nat.not_le.mpr c_11_3]; omega) | (revert c_11_3; simp +contextual [takenAll, sumN_s, Int32.not_lt, Int32.not_le]; done) | (revert c_11_3; simp +contextual [takenAll, sumN_s, Int32.not_lt, Int32.not_le]; omega)
    have e4_7 : (ir + 1 : Nat) = ((ir + 1)) := by first | rfl | omega | (simp [takenAll, sumN_s, Int32.not_lt, Int32.not_le, c_11_3, Nat.not_le.mpr c_11_3]; done) | (simp [takenAll, sumN_s, Int32.not_lt, Int32.not_le, c_11_3, Nat.not_le.mpr c_11_3]; omega) | (revert c_11_3; simp +contextual [takenAll, sumN_s, Int32.not_lt, Int32.not_le]; done) | (revert c_11_3; simp +contextual [takenAll, sumN_s, Int32.not_lt, Int32.not_le]; omega)
    have hl4_8 : lv_has ls 3 [(0, .ref (a 0)), (1, .int (nI (sumN (ir + 1) (fun r => takenIn z r)))), (2, .int (nI (ir + 1)))] := lv_eqv (l1 := [(0, .ref (a 0)), (1, .int (nI ((sumN ir (fun r => takenIn z r)) + (takenIn z ir)))), (2, .int (nI (ir + 1)))]) (lv_sub hl [2, 1, 0] rfl) (lv_ce rfl (lv_ce (congrArg (fun x => Value.int (nI x)) e4_6) (lv_ce (congrArg (fun x => Value.int (nI x)) e4_7) rfl)))
    exact ih4 _ (by omega) (hl4_8)
set_option maxHeartbeats 4000000 in
set_option maxRecDepth 100000 in
theorem c_X5_inWayOf (l : Launch) (D : va_G) (cI cC cH cL : ClassId) (a : Nat → Nat) (z zh tx pa wy : ZZ) (st le th rd nu pt : Int32) (za : Int64) (r0 : Nat) (f0 : Nat) (m0 : Nat) (hw : WF z) (hr : r0 < nR z) (hm : f0 + m0 ≤ 100) : Met l yX5_inWayOf wsX5_inWayOf ({ frames := 5, cells := 0, slots := 0, locals := 118 }) (kp [.ref (a 0), .int (nI r0), .int (nI f0), .int (nI m0)] D (MW a cI z st zh le tx th pa rd nu pt wy za) (kT cI cC cH cL)) (kr (.returned (some (.int (inWayOfI z r0 f0 m0))))) 0 0 (fun _ => False) := by
  refine Met.ofW (cc := cX5_inWayOf) (maxL := 6) (ret := (some .int)) (by decide) rfl ?_
  intro p e s m args below meth c s₁ B hml hv
  obtain ⟨rfl, hP, hK⟩ := hv
  have hx := B.exec
  have hb := B.bytes
  have hrt := B.returns
  have hts := atoms_spec (ws := wsX5_inWayOf) B.pre
  have hown : s.vm.findClass RX5 = some m.cls := findClass_of_methodNamed B.named
  have hlocks := B.notSynchronized
  have hl := lv_entry ([.ref (a 0), .int (nI r0), .int (nI f0), .int (nI m0)]) (n := 6) (Nat.le_of_ble_eq_true rfl)
  rw [lg_entry_eq]
  generalize (lg_sl ([.ref (a 0), .int (nI r0), .int (nI f0), .int (nI m0)]) ++ List.replicate (6 - (lg_sl ([.ref (a 0), .int (nI r0), .int (nI f0), .int (nI m0)])).length) Slot.unset).toArray = ls at hl ⊢
  have hl : lv_has ls 6 [(0, .ref (a 0)), (1, .int (nI r0)), (2, .int (nI f0)), (3, .int (nI m0))] := hl
  have hR10 := wf_R10 hw
  have hC4 := wf_C4 hw
  refine lv_iconst (v := nI 0) hx hb dX5_inWayOf_0 (by decide) ?_
  refine lv_istore (lv' := [(4, .int (nI 0)), (0, .ref (a 0)), (1, .int (nI r0)), (2, .int (nI f0)), (3, .int (nI m0))]) hx hb dX5_inWayOf_1 hl (by decide) rfl (fun ls hl => ?_)
  refine lv_iload_n hx hb dX5_inWayOf_3 rfl (lv_at hl 3 rfl) ?_
  refine lv_istore (lv' := [(5, .int (nI f0)), (4, .int (nI 0)), (0, .ref (a 0)), (1, .int (nI r0)), (2, .int (nI f0)), (3, .int (nI m0))]) hx hb dX5_inWayOf_4 hl (by decide) rfl (fun ls hl => ?_)
  have e6_0 : (0 : Nat) = (sumN 0 (fun j => ways z r0 (f0 + j))) := by first | rfl | omega | (simp [inWayOfI, Int32.not_lt, Int32.not_le]; done) | (simp [inWayOfI, Int32.not_lt, Int32.not_le]; omega)
  have e6_1 : (f0 : Nat) = (f0 + 0) := by first | rfl | omega | (simp [inWayOfI, Int32.not_lt, Int32.not_le]; done) | (simp [inWayOfI, Int32.not_lt, Int32.not_le]; omega)
  have hl6_2 : lv_has ls 6 [(0, .ref (a 0)), (1, .int (nI r0)), (2, .int (nI f0)), (3, .int (nI m0)), (4, .int (nI (sumN 0 (fun j => ways z r0 (f0 + j))))), (5, .int (nI (f0 + 0)))] := lv_eqv (l1 := [(0, .ref (a 0)), (1, .int (nI r0)), (2, .int (nI f0)), (3, .int (nI m0)), (4, .int (nI 0)), (5, .int (nI f0))]) (lv_sub hl [2, 3, 4, 5, 1, 0] rfl) (lv_ce rfl (lv_ce rfl (lv_ce rfl (lv_ce rfl (lv_ce (congrArg (fun x => Value.int (nI x)) e6_0) (lv_ce (congrArg (fun x => Value.int (nI x)) e6_1) rfl))))))
  refine kx_up (fun k ls => lv_has ls 6 [(0, .ref (a 0)), (1, .int (nI r0)), (2, .int (nI f0)), (3, .int (nI m0)), (4, .int (nI (sumN k (fun j => ways z r0 (f0 + j))))), (5, .int (nI (f0 + k)))] ∧ (allN k (fun j => !tk z r0 (f0 + j)) = true)) (0) (m0) (by omega) ls (⟨hl6_2, rfl⟩) ?_
  intro ij ls hijl hijh hp ih6
  obtain ⟨hl, hinv6⟩ := hp
  refine lv_iload hx hb dX5_inWayOf_6 (lv_at hl 5 rfl) ?_
  refine lv_iload_n hx hb dX5_inWayOf_8 rfl (lv_at hl 2 rfl) ?_
  refine lv_iload_n hx hb dX5_inWayOf_9 rfl (lv_at hl 3 rfl) ?_
  refine kx_iadd hx hb dX5_inWayOf_10 ?_
  refine kx_icmp_ge (tgt := 44) hx hb (by omega) (by omega) dX5_inWayOf_11 (by decide) (fun c_11_3 => ?_) (fun c_11_4 => ?_)
  · have hq5 : m0 = ij := by omega
    subst hq5
    refine lv_iload hx hb dX5_inWayOf_44 (lv_at hl 4 rfl) ?_
    have e_6 : (nI (sumN m0 (fun j => ways z r0 (f0 + j))) : Int32) = (inWayOfI z r0 f0 m0) := by unfold inWayOfI; rw [if_pos hinv6]
    exact kr_iret hx hb hrt hlocks e_6 rfl dX5_inWayOf_46
  · refine lv_aload_n hx hb dX5_inWayOf_14 rfl (lv_at hl 0 rfl) ?_
    refine lv_iload_n hx hb dX5_inWayOf_15 rfl (lv_at hl 1 rfl) ?_
    refine lv_iload hx hb dX5_inWayOf_16 (lv_at hl 5 rfl) ?_
    refine kr_V (As := [.int (nI r0), .int (nI (f0 + ij))]) (rest := []) (C := RX5) (own := RX5) ⟨hx, hb, hml, hown, hts⟩ (c_X5_isTaken l D cI cC cH cL a z zh tx pa wy st le th rd nu pt za r0 (f0 + ij) (by first | assumption | omega)) (cwV 2 hts gX5_inWayOf_X5_isTaken rfl rfl rfl k_X5_isTaken ⟨Nat.le_of_ble_eq_true rfl, Nat.le_of_ble_eq_true rfl⟩) hP hK (va_recv (q := (RX5, TX5, 12)) hK hP (ci := 5) (q0 := 0) rfl rfl) rfl hl.1 rfl (Nat.le_of_ble_eq_true rfl) dX5_inWayOf_18 ⟨Nat.le_of_ble_eq_true rfl, Nat.le_of_ble_eq_true rfl⟩ ?_
    refine kx_if_eqb (tgt := 26) hx hb dX5_inWayOf_21 (by decide) (fun c_21_7 => ?_) (fun c_21_8 => ?_)
    · refine lv_iload hx hb dX5_inWayOf_26 (lv_at hl 4 rfl) ?_
      refine lv_aload_n hx hb dX5_inWayOf_28 rfl (lv_at hl 0 rfl) ?_
      refine lv_iload_n hx hb dX5_inWayOf_29 rfl (lv_at hl 1 rfl) ?_
      refine lv_iload hx hb dX5_inWayOf_30 (lv_at hl 5 rfl) ?_
      refine kr_V (As := [.int (nI r0), .int (nI (f0 + ij))]) (rest := [.int (nI (sumN ij (fun j => ways z r0 (f0 + j))))]) (C := RX5) (own := RX5) ⟨hx, hb, hml, hown, hts⟩ (c_X5_inWay l D cI cC cH cL a z zh tx pa wy st le th rd nu pt za r0 (f0 + ij) (by first | assumption | omega) (by first | assumption | omega)) (cwV 2 hts gX5_inWayOf_X5_inWay rfl rfl rfl k_X5_inWay ⟨Nat.le_of_ble_eq_true rfl, Nat.le_of_ble_eq_true rfl⟩) hP hK (va_recv (q := (RX5, TX5, 12)) hK hP (ci := 5) (q0 := 0) rfl rfl) rfl hl.1 rfl (Nat.le_of_ble_eq_true rfl) dX5_inWayOf_32 ⟨Nat.le_of_ble_eq_true rfl, Nat.le_of_ble_eq_true rfl⟩ ?_
      refine kx_iadd hx hb dX5_inWayOf_35 ?_
      refine lv_istore (lv' := [(4, .int (nI ((sumN ij (fun j => ways z r0 (f0 + j))) + (ways z r0 (f0 + ij))))), (0, .ref (a 0)), (1, .int (nI r0)), (2, .int (nI f0)), (3, .int (nI m0)), (5, .int (nI (f0 + ij)))]) hx hb dX5_inWayOf_36 hl (by decide) rfl (fun ls hl => ?_)
      refine lv_iinc (v := nI ((f0 + ij) + 1)) (lv' := [(5, .int (nI ((f0 + ij) + 1))), (4, .int (nI ((sumN ij (fun j => ways z r0 (f0 + j))) + (ways z r0 (f0 + ij))))), (0, .ref (a 0)), (1, .int (nI r0)), (2, .int (nI f0)), (3, .int (nI m0))]) hx hb dX5_inWayOf_38 hl (k := 5) rfl (kx_inc 1) (by decide) rfl (fun ls hl => ?_)
      refine lv_goto (tgt := 6) hx hb dX5_inWayOf_41 (by decide) ?_
      have e6_9 : ((sumN ij (fun j => ways z r0 (f0 + j))) + (ways z r0 (f0 + ij)) : Nat) = (sumN (ij + 1) (fun j => ways z r0 (f0 + j))) := by first | rfl | omega | (simp [inWayOfI, Int32.not_lt, Int32.not_le, c_11_4, Nat.not_le.mpr c_11_4, c_21_7]; done) | (simp [inWayOfI, Int32.not_lt, Int32.not_le, c_11_4, Nat.not_le.mpr c_11_4, c_21_7]; omega) | (revert c_11_4 c_21_7; simp +contextual [inWayOfI, Int32.not_lt, Int32.not_le]; done) | (revert c_11_4 c_21_7; simp +contextual [inWayOfI, Int32.not_lt, Int32.not_le]; omega)
      have e6_10 : ((f0 + ij) + 1 : Nat) = (f0 + (ij + 1)) := by first | rfl | omega | (simp [inWayOfI, Int32.not_lt, Int32.not_le, c_11_4, Nat.not_le.mpr c_11_4, c_21_7]; done) | (simp [inWayOfI, Int32.not_lt, Int32.not_le, c_11_4, Nat.not_le.mpr c_11_4, c_21_7]; omega) | (revert c_11_4 c_21_7; simp +contextual [inWayOfI, Int32.not_lt, Int32.not_le]; done) | (revert c_11_4 c_21_7; simp +contextual [inWayOfI, Int32.not_lt, Int32.not_le]; omega)
      have hl6_11 : lv_has ls 6 [(0, .ref (a 0)), (1, .int (nI r0)), (2, .int (nI f0)), (3, .int (nI m0)), (4, .int (nI (sumN (ij + 1) (fun j => ways z r0 (f0 + j))))), (5, .int (nI (f0 + (ij + 1))))] := lv_eqv (l1 := [(0, .ref (a 0)), (1, .int (nI r0)), (2, .int (nI f0)), (3, .int (nI m0)), (4, .int (nI ((sumN ij (fun j => ways z r0 (f0 + j))) + (ways z r0 (f0 + ij))))), (5, .int (nI ((f0 + ij) + 1)))]) (lv_sub hl [2, 3, 4, 5, 1, 0] rfl) (lv_ce rfl (lv_ce rfl (lv_ce rfl (lv_ce rfl (lv_ce (congrArg (fun x => Value.int (nI x)) e6_9) (lv_ce (congrArg (fun x => Value.int (nI x)) e6_10) rfl))))))
      exact ih6 _ (by omega) (⟨hl6_11, by rw [allN_s, hinv6]; simp [c_11_4, Nat.not_le.mpr c_11_4, c_21_7]⟩)
    · refine lv_iconst (v := (-1)) hx hb dX5_inWayOf_24 (by decide) ?_
      have e_12 : ((-1) : Int32) = (inWayOfI z r0 f0 m0) := by unfold inWayOfI; rw [if_neg (by rw [allN_f (show ij < m0 by omega) (by simp [c_11_4, Nat.not_le.mpr c_11_4, c_21_8])]; decide)]
      exact kr_iret hx hb hrt hlocks e_12 rfl dX5_inWayOf_25
set_option maxRecDepth 20000 in
theorem iX5_placeFor_5 : ∀ w ∈ wsX50, w ∈ wsX5_placeFor := by decide +kernel
set_option maxHeartbeats 4000000 in
set_option maxRecDepth 100000 in
theorem c_X5_placeFor (l : Launch) (D : va_G) (cI cC cH cL : ClassId) (a : Nat → Nat) (z zh tx pa wy : ZZ) (st le th rd nu pt : Int32) (za : Int64) (m0 : Nat) (hw : WF z) (hm1 : 1 ≤ m0) (hm : m0 ≤ 12) : Met l yX5_placeFor wsX5_placeFor ({ frames := 6, cells := 0, slots := 0, locals := 143 }) (kp [.ref (a 0), .int (nI m0)] D (MW a cI z st zh le tx th pa rd nu pt wy za) (kT cI cC cH cL)) (kr (.returned (some (.int (placeForI z m0))))) 0 0 (fun _ => False) := by
  refine Met.ofW (cc := cX5_placeFor) (maxL := 8) (ret := (some .int)) (by decide) rfl ?_
  intro p e s m args below meth c s₁ B hml hv
  obtain ⟨rfl, hP, hK⟩ := hv
  have hx := B.exec
  have hb := B.bytes
  have hrt := B.returns
  have hts := atoms_spec (ws := wsX5_placeFor) B.pre
  have hown : s.vm.findClass RX5 = some m.cls := findClass_of_methodNamed B.named
  have hlocks := B.notSynchronized
  have hl := lv_entry ([.ref (a 0), .int (nI m0)]) (n := 8) (Nat.le_of_ble_eq_true rfl)
  rw [lg_entry_eq]
  generalize (lg_sl ([.ref (a 0), .int (nI m0)]) ++ List.replicate (8 - (lg_sl ([.ref (a 0), .int (nI m0)])).length) Slot.unset).toArray = ls at hl ⊢
  have hl : lv_has ls 8 [(0, .ref (a 0)), (1, .int (nI m0))] := hl
  have hR10 := wf_R10 hw
  have hC4 := wf_C4 hw
  refine lv_iconst (v := (-1)) hx hb dX5_placeFor_0 (by decide) ?_
  refine lv_istore_n (lv' := [(2, .int (-1)), (0, .ref (a 0)), (1, .int (nI m0))]) hx hb dX5_placeFor_1 rfl hl (by decide) rfl (fun ls hl => ?_)
  refine lv_iconst (v := nI 0) hx hb dX5_placeFor_2 (by decide) ?_
  refine lv_istore_n (lv' := [(3, .int (nI 0)), (2, .int (-1)), (0, .ref (a 0)), (1, .int (nI m0))]) hx hb dX5_placeFor_3 rfl hl (by decide) rfl (fun ls hl => ?_)
  refine lv_iconst (v := nI 0) hx hb dX5_placeFor_4 (by decide) ?_
  refine lv_istore (lv' := [(4, .int (nI 0)), (3, .int (nI 0)), (2, .int (-1)), (0, .ref (a 0)), (1, .int (nI m0))]) hx hb dX5_placeFor_5 hl (by decide) rfl (fun ls hl => ?_)
  have e7_0 : ((-1) : Int32) = ((itN 0 (pfR z m0) (-1, nI 0)).1) := by first | rfl | omega | (simp [placeForI, pfR, pfS, itN_s, Int32.not_lt, Int32.not_le]; done) | (simp [placeForI, pfR, pfS, itN_s, Int32.not_lt, Int32.not_le]; omega)
  have e7_1 : (nI 0 : Int32) = ((itN 0 (pfR z m0) (-1, nI 0)).2) := by first | rfl | omega | (simp [placeForI, pfR, pfS, itN_s, Int32.not_lt, Int32.not_le]; done) | (simp [placeForI, pfR, pfS, itN_s, Int32.not_lt, Int32.not_le]; omega)
  have hl7_2 : lv_has ls 8 [(0, .ref (a 0)), (1, .int (nI m0)), (2, .int ((itN 0 (pfR z m0) (-1, nI 0)).1)), (3, .int ((itN 0 (pfR z m0) (-1, nI 0)).2)), (4, .int (nI 0))] := lv_eqv (l1 := [(0, .ref (a 0)), (1, .int (nI m0)), (2, .int (-1)), (3, .int (nI 0)), (4, .int (nI 0))]) (lv_sub hl [3, 4, 2, 1, 0] rfl) (lv_ce rfl (lv_ce rfl (lv_ce (congrArg Value.int e7_0) (lv_ce (congrArg Value.int e7_1) (lv_ce rfl rfl)))))
  refine kx_up (fun k ls => lv_has ls 8 [(0, .ref (a 0)), (1, .int (nI m0)), (2, .int ((itN k (pfR z m0) (-1, nI 0)).1)), (3, .int ((itN k (pfR z m0) (-1, nI 0)).2)), (4, .int (nI k))]) (0) (nR z) (by omega) ls (hl7_2) ?_
  intro ir ls hirl hirh hp ih7
  have hl := hp
  refine lv_iload hx hb dX5_placeFor_7 (lv_at hl 4 rfl) ?_
  refine lv_aload_n hx hb dX5_placeFor_9 rfl (lv_at hl 0 rfl) ?_
  refine va_get (D := D) (ci := 5) (v := .ref (a 1)) (C := RX5) (T := TX5) (N := 12) hx hb hts iX5_placeFor_5 hown hK hP 0 rfl rfl 0 (by decide) (hts (.fieldLink RX5 7 "HallSightsModel" "z" "[I") (List.mem_of_getElem? (i := 1) rfl)) (fun _ h9 => h9) rfl dX5_placeFor_10 ?_
  refine lv_iconst (v := nI 3) hx hb dX5_placeFor_13 (by decide) ?_
  refine kx_iald hx hb hK hP 1 0 rfl rfl (by omega) (by decide) dX5_placeFor_14 ?_
  refine kx_top (wf_R hw) ?_
  refine kx_icmp_ge (tgt := 112) hx hb (by omega) (by omega) dX5_placeFor_15 (by decide) (fun c_15_3 => ?_) (fun c_15_4 => ?_)
  · have hq5 : nR z = ir := by omega
    subst hq5
    refine lv_iload_n hx hb dX5_placeFor_112 rfl (lv_at hl 2 rfl) ?_
    have e_6 : ((itN (nR z) (pfR z m0) (-1, nI 0)).1 : Int32) = (placeForI z m0) := by first | rfl | omega | (simp [placeForI, pfR, pfS, itN_s, Int32.not_lt, Int32.not_le, c_15_3, Nat.not_lt.mpr c_15_3]; done) | (simp [placeForI, pfR, pfS, itN_s, Int32.not_lt, Int32.not_le, c_15_3, Nat.not_lt.mpr c_15_3]; omega) | (revert c_15_3; simp +contextual [placeForI, pfR, pfS, itN_s, Int32.not_lt, Int32.not_le]; done) | (revert c_15_3; simp +contextual [placeForI, pfR, pfS, itN_s, Int32.not_lt, Int32.not_le]; omega)
    exact kr_iret hx hb hrt hlocks e_6 rfl dX5_placeFor_113
  · refine lv_iconst (v := nI 0) hx hb dX5_placeFor_18 (by decide) ?_
    refine lv_istore (lv' := [(5, .int (nI 0)), (0, .ref (a 0)), (1, .int (nI m0)), (2, .int ((itN ir (pfR z m0) (-1, nI 0)).1)), (3, .int ((itN ir (pfR z m0) (-1, nI 0)).2)), (4, .int (nI ir))]) hx hb dX5_placeFor_19 hl (by decide) rfl (fun ls hl => ?_)
    have e21_7 : ((itN ir (pfR z m0) (-1, nI 0)).1 : Int32) = ((itN 0 (pfS z m0 ir) (itN ir (pfR z m0) (-1, nI 0))).1) := by first | rfl | omega | (simp [placeForI, pfR, pfS, itN_s, Int32.not_lt, Int32.not_le, c_15_4, Nat.not_le.mpr c_15_4]; done) | (simp [placeForI, pfR, pfS, itN_s, Int32.not_lt, Int32.not_le, c_15_4, Nat.not_le.mpr c_15_4]; omega) | (revert c_15_4; simp +contextual [placeForI, pfR, pfS, itN_s, Int32.not_lt, Int32.not_le]; done) | (revert c_15_4; simp +contextual [placeForI, pfR, pfS, itN_s, Int32.not_lt, Int32.not_le]; omega)
    have e21_8 : ((itN ir (pfR z m0) (-1, nI 0)).2 : Int32) = ((itN 0 (pfS z m0 ir) (itN ir (pfR z m0) (-1, nI 0))).2) := by first | rfl | omega | (simp [placeForI, pfR, pfS, itN_s, Int32.not_lt, Int32.not_le, c_15_4, Nat.not_le.mpr c_15_4]; done) | (simp [placeForI, pfR, pfS, itN_s, Int32.not_lt, Int32.not_le, c_15_4, Nat.not_le.mpr c_15_4]; omega) | (revert c_15_4; simp +contextual [placeForI, pfR, pfS, itN_s, Int32.not_lt, Int32.not_le]; done) | (revert c_15_4; simp +contextual [placeForI, pfR, pfS, itN_s, Int32.not_lt, Int32.not_le]; omega)
    have hl21_9 : lv_has ls 8 [(0, .ref (a 0)), (1, .int (nI m0)), (4, .int (nI ir)), (2, .int ((itN 0 (pfS z m0 ir) (itN ir (pfR z m0) (-1, nI 0))).1)), (3, .int ((itN 0 (pfS z m0 ir) (itN ir (pfR z m0) (-1, nI 0))).2)), (5, .int (nI 0))] := lv_eqv (l1 := [(0, .ref (a 0)), (1, .int (nI m0)), (4, .int (nI ir)), (2, .int ((itN ir (pfR z m0) (-1, nI 0)).1)), (3, .int ((itN ir (pfR z m0) (-1, nI 0)).2)), (5, .int (nI 0))]) (lv_sub hl [1, 2, 5, 3, 4, 0] rfl) (lv_ce rfl (lv_ce rfl (lv_ce rfl (lv_ce (congrArg Value.int e21_7) (lv_ce (congrArg Value.int e21_8) (lv_ce rfl rfl))))))
    refine kx_up (fun k ls => lv_has ls 8 [(0, .ref (a 0)), (1, .int (nI m0)), (4, .int (nI ir)), (2, .int ((itN k (pfS z m0 ir) (itN ir (pfR z m0) (-1, nI 0))).1)), (3, .int ((itN k (pfS z m0 ir) (itN ir (pfR z m0) (-1, nI 0))).2)), (5, .int (nI k))]) (0) (nS z ir + 1 - m0) (by omega) ls (hl21_9) ?_
    intro iw ls hiwl hiwh hp ih21
    have hl := hp
    have hS21 := wf_S12 hw (show ir < nR z by omega)
    refine lv_iload hx hb dX5_placeFor_21 (lv_at hl 5 rfl) ?_
    refine lv_iload_n hx hb dX5_placeFor_23 rfl (lv_at hl 1 rfl) ?_
    refine kx_iadd hx hb dX5_placeFor_24 ?_
    refine lv_aload_n hx hb dX5_placeFor_25 rfl (lv_at hl 0 rfl) ?_
    refine lv_iload hx hb dX5_placeFor_26 (lv_at hl 2 rfl) ?_
    refine lv_iconst (v := nI 2) hx hb dX5_placeFor_28 (by decide) ?_
    refine kr_V (As := [.int (nI ir), .int (nI 2)]) (rest := [.int (nI (iw + m0))]) (C := RX5) (own := RX5) ⟨hx, hb, hml, hown, hts⟩ (c_X5_of l D cI cC cH cL a z zh tx pa wy st le th rd nu pt za ir 2 (by first | assumption | omega)) (cwV 2 hts gX5_placeFor_X5_of rfl rfl rfl k_X5_of ⟨Nat.le_of_ble_eq_true rfl, Nat.le_of_ble_eq_true rfl⟩) hP hK (va_recv (q := (RX5, TX5, 12)) hK hP (ci := 5) (q0 := 0) rfl rfl) rfl hl.1 rfl (Nat.le_of_ble_eq_true rfl) dX5_placeFor_29 ⟨Nat.le_of_ble_eq_true rfl, Nat.le_of_ble_eq_true rfl⟩ ?_
    refine kx_top (wf_S hw (show (ir) < nR z by omega)) ?_
    have hS12_10 := wf_S12 hw (show (ir) < nR z by omega)
    refine kx_icmp_gt (tgt := 106) hx hb (by omega) (by omega) dX5_placeFor_32 (by decide) (fun c_32_11 => ?_) (fun c_32_12 => ?_)
    · have hq13 : nS z ir + 1 - m0 = iw := by omega
      subst hq13
      refine lv_iinc (v := nI (ir + 1)) (lv' := [(4, .int (nI (ir + 1))), (0, .ref (a 0)), (1, .int (nI m0)), (2, .int ((itN (nS z ir + 1 - m0) (pfS z m0 ir) (itN ir (pfR z m0) (-1, nI 0))).1)), (3, .int ((itN (nS z ir + 1 - m0) (pfS z m0 ir) (itN ir (pfR z m0) (-1, nI 0))).2)), (5, .int (nI (nS z ir + 1 - m0)))]) hx hb dX5_placeFor_106 hl (k := 2) rfl (kx_inc 1) (by decide) rfl (fun ls hl => ?_)
      refine lv_goto (tgt := 7) hx hb dX5_placeFor_109 (by decide) ?_
      have e7_14 : ((itN (nS z ir + 1 - m0) (pfS z m0 ir) (itN ir (pfR z m0) (-1, nI 0))).1 : Int32) = ((itN (ir + 1) (pfR z m0) (-1, nI 0)).1) := by first | rfl | omega | (simp [placeForI, pfR, pfS, itN_s, Int32.not_lt, Int32.not_le, c_15_4, Nat.not_le.mpr c_15_4, c_32_11, Nat.not_le.mpr c_32_11]; done) | (simp [placeForI, pfR, pfS, itN_s, Int32.not_lt, Int32.not_le, c_15_4, Nat.not_le.mpr c_15_4, c_32_11, Nat.not_le.mpr c_32_11]; omega) | (revert c_15_4 c_32_11; simp +contextual [placeForI, pfR, pfS, itN_s, Int32.not_lt, Int32.not_le]; done) | (revert c_15_4 c_32_11; simp +contextual [placeForI, pfR, pfS, itN_s, Int32.not_lt, Int32.not_le]; omega)
      have e7_15 : ((itN (nS z ir + 1 - m0) (pfS z m0 ir) (itN ir (pfR z m0) (-1, nI 0))).2 : Int32) = ((itN (ir + 1) (pfR z m0) (-1, nI 0)).2) := by first | rfl | omega | (simp [placeForI, pfR, pfS, itN_s, Int32.not_lt, Int32.not_le, c_15_4, Nat.not_le.mpr c_15_4, c_32_11, Nat.not_le.mpr c_32_11]; done) | (simp [placeForI, pfR, pfS, itN_s, Int32.not_lt, Int32.not_le, c_15_4, Nat.not_le.mpr c_15_4, c_32_11, Nat.not_le.mpr c_32_11]; omega) | (revert c_15_4 c_32_11; simp +contextual [placeForI, pfR, pfS, itN_s, Int32.not_lt, Int32.not_le]; done) | (revert c_15_4 c_32_11; simp +contextual [placeForI, pfR, pfS, itN_s, Int32.not_lt, Int32.not_le]; omega)
      have e7_16 : (ir + 1 : Nat) = ((ir + 1)) := by first | rfl | omega | (simp [placeForI, pfR, pfS, itN_s, Int32.not_lt, Int32.not_le, c_15_4, Nat.not_le.mpr c_15_4, c_32_11, Nat.not_le.mpr c_32_11]; done) | (simp [placeForI, pfR, pfS, itN_s, Int32.not_lt, Int32.not_le, c_15_4, Nat.not_le.mpr c_15_4, c_32_11, Nat.not_le.mpr c_32_11]; omega) | (revert c_15_4 c_32_11; simp +contextual [placeForI, pfR, pfS, itN_s, Int32.not_lt, Int32.not_le]; done) | (revert c_15_4 c_32_11; simp +contextual [placeForI, pfR, pfS, itN_s, Int32.not_lt, Int32.not_le]; omega)
      have hl7_17 : lv_has ls 8 [(0, .ref (a 0)), (1, .int (nI m0)), (2, .int ((itN (ir + 1) (pfR z m0) (-1, nI 0)).1)), (3, .int ((itN (ir + 1) (pfR z m0) (-1, nI 0)).2)), (4, .int (nI (ir + 1)))] := lv_eqv (l1 := [(0, .ref (a 0)), (1, .int (nI m0)), (2, .int ((itN (nS z ir + 1 - m0) (pfS z m0 ir) (itN ir (pfR z m0) (-1, nI 0))).1)), (3, .int ((itN (nS z ir + 1 - m0) (pfS z m0 ir) (itN ir (pfR z m0) (-1, nI 0))).2)), (4, .int (nI (ir + 1)))]) (lv_sub hl [1, 2, 3, 4, 0] rfl) (lv_ce rfl (lv_ce rfl (lv_ce (congrArg Value.int e7_14) (lv_ce (congrArg Value.int e7_15) (lv_ce (congrArg (fun x => Value.int (nI x)) e7_16) rfl)))))
      exact ih7 _ (by omega) (hl7_17)
    · have hS35 := wf_S12 hw (show ir < nR z by omega)
      refine lv_aload_n hx hb dX5_placeFor_35 rfl (lv_at hl 0 rfl) ?_
      refine lv_iload hx hb dX5_placeFor_36 (lv_at hl 2 rfl) ?_
      refine lv_iload hx hb dX5_placeFor_38 (lv_at hl 5 rfl) ?_
      refine lv_iload_n hx hb dX5_placeFor_40 rfl (lv_at hl 1 rfl) ?_
      refine kr_V (As := [.int (nI ir), .int (nI iw), .int (nI m0)]) (rest := []) (C := RX5) (own := RX5) ⟨hx, hb, hml, hown, hts⟩ (c_X5_inWayOf l D cI cC cH cL a z zh tx pa wy st le th rd nu pt za ir iw m0 (by first | assumption | omega) (by first | assumption | omega) (by first | assumption | omega)) (cwV 3 hts gX5_placeFor_X5_inWayOf rfl rfl rfl k_X5_inWayOf ⟨Nat.le_of_ble_eq_true rfl, Nat.le_of_ble_eq_true rfl⟩) hP hK (va_recv (q := (RX5, TX5, 12)) hK hP (ci := 5) (q0 := 0) rfl rfl) rfl hl.1 rfl (Nat.le_of_ble_eq_true rfl) dX5_placeFor_41 ⟨Nat.le_of_ble_eq_true rfl, Nat.le_of_ble_eq_true rfl⟩ ?_
      refine lv_istore (lv' := [(6, .int (inWayOfI z ir iw m0)), (0, .ref (a 0)), (1, .int (nI m0)), (4, .int (nI ir)), (2, .int ((itN iw (pfS z m0 ir) (itN ir (pfR z m0) (-1, nI 0))).1)), (3, .int ((itN iw (pfS z m0 ir) (itN ir (pfR z m0) (-1, nI 0))).2)), (5, .int (nI iw))]) hx hb dX5_placeFor_44 hl (by decide) rfl (fun ls hl => ?_)
      refine lv_iload hx hb dX5_placeFor_46 (lv_at hl 0 rfl) ?_
      refine lv_iconst (v := (-1)) hx hb dX5_placeFor_48 (by decide) ?_
      refine lv_icmp_eq (tgt := 67) hx hb dX5_placeFor_49 (by decide) (fun c_49_18 => ?_) (fun c_49_19 => ?_)
      · have c_49_18 : ((inWayOfI z ir iw m0) : Int32) = (-1) := c_49_18
        refine lv_iconst (v := nI 0) hx hb dX5_placeFor_67 (by decide) ?_
        refine lv_istore (lv' := [(7, .int (nI 0)), (6, .int (inWayOfI z ir iw m0)), (0, .ref (a 0)), (1, .int (nI m0)), (4, .int (nI ir)), (2, .int ((itN iw (pfS z m0 ir) (itN ir (pfR z m0) (-1, nI 0))).1)), (3, .int ((itN iw (pfS z m0 ir) (itN ir (pfR z m0) (-1, nI 0))).2)), (5, .int (nI iw))]) hx hb dX5_placeFor_68 hl (by decide) rfl (fun ls hl => ?_)
        refine lv_iload hx hb dX5_placeFor_70 (lv_at hl 0 rfl) ?_
        refine kx_if_eq (tgt := 86) hx hb (by omega) dX5_placeFor_72 (by decide) (fun c_72_20 => ?_) (fun c => absurd c (by omega))
        refine lv_iload_n hx hb dX5_placeFor_86 rfl (lv_at hl 5 rfl) ?_
        refine lv_istore_n (lv' := [(2, .int ((itN iw (pfS z m0 ir) (itN ir (pfR z m0) (-1, nI 0))).1)), (7, .int (nI 0)), (6, .int (inWayOfI z ir iw m0)), (0, .ref (a 0)), (1, .int (nI m0)), (4, .int (nI ir)), (3, .int ((itN iw (pfS z m0 ir) (itN ir (pfR z m0) (-1, nI 0))).2)), (5, .int (nI iw))]) hx hb dX5_placeFor_87 rfl hl (by decide) rfl (fun ls hl => ?_)
        refine lv_iload hx hb dX5_placeFor_88 (lv_at hl 1 rfl) ?_
        refine kx_if_eq (tgt := 98) hx hb (by omega) dX5_placeFor_90 (by decide) (fun c_90_21 => ?_) (fun c => absurd c (by omega))
        refine lv_iload_n hx hb dX5_placeFor_98 rfl (lv_at hl 6 rfl) ?_
        refine lv_istore_n (lv' := [(3, .int ((itN iw (pfS z m0 ir) (itN ir (pfR z m0) (-1, nI 0))).2)), (2, .int ((itN iw (pfS z m0 ir) (itN ir (pfR z m0) (-1, nI 0))).1)), (7, .int (nI 0)), (6, .int (inWayOfI z ir iw m0)), (0, .ref (a 0)), (1, .int (nI m0)), (4, .int (nI ir)), (5, .int (nI iw))]) hx hb dX5_placeFor_99 rfl hl (by decide) rfl (fun ls hl => ?_)
        refine lv_iinc (v := nI (iw + 1)) (lv' := [(5, .int (nI (iw + 1))), (3, .int ((itN iw (pfS z m0 ir) (itN ir (pfR z m0) (-1, nI 0))).2)), (2, .int ((itN iw (pfS z m0 ir) (itN ir (pfR z m0) (-1, nI 0))).1)), (7, .int (nI 0)), (6, .int (inWayOfI z ir iw m0)), (0, .ref (a 0)), (1, .int (nI m0)), (4, .int (nI ir))]) hx hb dX5_placeFor_100 hl (k := 7) rfl (kx_inc 1) (by decide) rfl (fun ls hl => ?_)
        refine lv_goto (tgt := 21) hx hb dX5_placeFor_103 (by decide) ?_
        have e21_22 : ((itN iw (pfS z m0 ir) (itN ir (pfR z m0) (-1, nI 0))).1 : Int32) = ((itN (iw + 1) (pfS z m0 ir) (itN ir (pfR z m0) (-1, nI 0))).1) := by first | rfl | omega | (simp [placeForI, pfR, pfS, itN_s, Int32.not_lt, Int32.not_le, c_15_4, Nat.not_le.mpr c_15_4, c_32_12, Nat.not_lt.mpr c_32_12, c_49_18]; done) | (simp [placeForI, pfR, pfS, itN_s, Int32.not_lt, Int32.not_le, c_15_4, Nat.not_le.mpr c_15_4, c_32_12, Nat.not_lt.mpr c_32_12, c_49_18]; omega) | (revert c_15_4 c_32_12 c_49_18; simp +contextual [placeForI, pfR, pfS, itN_s, Int32.not_lt, Int32.not_le]; done) | (revert c_15_4 c_32_12 c_49_18; simp +contextual [placeForI, pfR, pfS, itN_s, Int32.not_lt, Int32.not_le]; omega)
        have e21_23 : ((itN iw (pfS z m0 ir) (itN ir (pfR z m0) (-1, nI 0))).2 : Int32) = ((itN (iw + 1) (pfS z m0 ir) (itN ir (pfR z m0) (-1, nI 0))).2) := by first | rfl | omega | (simp [placeForI, pfR, pfS, itN_s, Int32.not_lt, Int32.not_le, c_15_4, Nat.not_le.mpr c_15_4, c_32_12, Nat.not_lt.mpr c_32_12, c_49_18]; done) | (simp [placeForI, pfR, pfS, itN_s, Int32.not_lt, Int32.not_le, c_15_4, Nat.not_le.mpr c_15_4, c_32_12, Nat.not_lt.mpr c_32_12, c_49_18]; omega) | (revert c_15_4 c_32_12 c_49_18; simp +contextual [placeForI, pfR, pfS, itN_s, Int32.not_lt, Int32.not_le]; done) | (revert c_15_4 c_32_12 c_49_18; simp +contextual [placeForI, pfR, pfS, itN_s, Int32.not_lt, Int32.not_le]; omega)
        have e21_24 : (iw + 1 : Nat) = ((iw + 1)) := by first | rfl | omega | (simp [placeForI, pfR, pfS, itN_s, Int32.not_lt, Int32.not_le, c_15_4, Nat.not_le.mpr c_15_4, c_32_12, Nat.not_lt.mpr c_32_12, c_49_18]; done) | (simp [placeForI, pfR, pfS, itN_s, Int32.not_lt, Int32.not_le, c_15_4, Nat.not_le.mpr c_15_4, c_32_12, Nat.not_lt.mpr c_32_12, c_49_18]; omega) | (revert c_15_4 c_32_12 c_49_18; simp +contextual [placeForI, pfR, pfS, itN_s, Int32.not_lt, Int32.not_le]; done) | (revert c_15_4 c_32_12 c_49_18; simp +contextual [placeForI, pfR, pfS, itN_s, Int32.not_lt, Int32.not_le]; omega)
        have hl21_25 : lv_has ls 8 [(0, .ref (a 0)), (1, .int (nI m0)), (4, .int (nI ir)), (2, .int ((itN (iw + 1) (pfS z m0 ir) (itN ir (pfR z m0) (-1, nI 0))).1)), (3, .int ((itN (iw + 1) (pfS z m0 ir) (itN ir (pfR z m0) (-1, nI 0))).2)), (5, .int (nI (iw + 1)))] := lv_eqv (l1 := [(0, .ref (a 0)), (1, .int (nI m0)), (4, .int (nI ir)), (2, .int ((itN iw (pfS z m0 ir) (itN ir (pfR z m0) (-1, nI 0))).1)), (3, .int ((itN iw (pfS z m0 ir) (itN ir (pfR z m0) (-1, nI 0))).2)), (5, .int (nI (iw + 1)))]) (lv_sub hl [5, 6, 7, 2, 1, 0] rfl) (lv_ce rfl (lv_ce rfl (lv_ce rfl (lv_ce (congrArg Value.int e21_22) (lv_ce (congrArg Value.int e21_23) (lv_ce (congrArg (fun x => Value.int (nI x)) e21_24) rfl))))))
        exact ih21 _ (by omega) (hl21_25)
      · have c_49_19 : ¬ ((inWayOfI z ir iw m0) : Int32) = (-1) := c_49_19
        refine lv_iload_n hx hb dX5_placeFor_52 rfl (lv_at hl 4 rfl) ?_
        refine lv_iconst (v := (-1)) hx hb dX5_placeFor_53 (by decide) ?_
        refine lv_icmp_eq (tgt := 63) hx hb dX5_placeFor_54 (by decide) (fun c_54_26 => ?_) (fun c_54_27 => ?_)
        · have c_54_26 : (((itN iw (pfS z m0 ir) (itN ir (pfR z m0) (-1, nI 0))).1) : Int32) = (-1) := c_54_26
          refine lv_iconst (v := nI 1) hx hb dX5_placeFor_63 (by decide) ?_
          refine lv_goto (tgt := 68) hx hb dX5_placeFor_64 (by decide) ?_
          refine lv_istore (lv' := [(7, .int (nI 1)), (6, .int (inWayOfI z ir iw m0)), (0, .ref (a 0)), (1, .int (nI m0)), (4, .int (nI ir)), (2, .int ((itN iw (pfS z m0 ir) (itN ir (pfR z m0) (-1, nI 0))).1)), (3, .int ((itN iw (pfS z m0 ir) (itN ir (pfR z m0) (-1, nI 0))).2)), (5, .int (nI iw))]) hx hb dX5_placeFor_68 hl (by decide) rfl (fun ls hl => ?_)
          refine lv_iload hx hb dX5_placeFor_70 (lv_at hl 0 rfl) ?_
          refine kx_if_eq (tgt := 86) hx hb (by omega) dX5_placeFor_72 (by decide) (fun c => absurd c (by omega)) (fun c_72_28 => ?_)
          refine lv_bipush (v := nI 100) hx hb dX5_placeFor_75 (by decide) ?_
          refine lv_iload hx hb dX5_placeFor_77 (lv_at hl 4 rfl) ?_
          refine kx_imul hx hb dX5_placeFor_79 ?_
          refine lv_iload hx hb dX5_placeFor_80 (lv_at hl 7 rfl) ?_
          refine kx_iadd hx hb dX5_placeFor_82 ?_
          refine lv_goto (tgt := 87) hx hb dX5_placeFor_83 (by decide) ?_
          refine lv_istore_n (lv' := [(2, .int (nI ((100 * ir) + iw))), (7, .int (nI 1)), (6, .int (inWayOfI z ir iw m0)), (0, .ref (a 0)), (1, .int (nI m0)), (4, .int (nI ir)), (3, .int ((itN iw (pfS z m0 ir) (itN ir (pfR z m0) (-1, nI 0))).2)), (5, .int (nI iw))]) hx hb dX5_placeFor_87 rfl hl (by decide) rfl (fun ls hl => ?_)
          refine lv_iload hx hb dX5_placeFor_88 (lv_at hl 1 rfl) ?_
          refine kx_if_eq (tgt := 98) hx hb (by omega) dX5_placeFor_90 (by decide) (fun c => absurd c (by omega)) (fun c_90_29 => ?_)
          refine lv_iload hx hb dX5_placeFor_93 (lv_at hl 2 rfl) ?_
          refine lv_goto (tgt := 99) hx hb dX5_placeFor_95 (by decide) ?_
          refine lv_istore_n (lv' := [(3, .int (inWayOfI z ir iw m0)), (2, .int (nI ((100 * ir) + iw))), (7, .int (nI 1)), (6, .int (inWayOfI z ir iw m0)), (0, .ref (a 0)), (1, .int (nI m0)), (4, .int (nI ir)), (5, .int (nI iw))]) hx hb dX5_placeFor_99 rfl hl (by decide) rfl (fun ls hl => ?_)
          refine lv_iinc (v := nI (iw + 1)) (lv' := [(5, .int (nI (iw + 1))), (3, .int (inWayOfI z ir iw m0)), (2, .int (nI ((100 * ir) + iw))), (7, .int (nI 1)), (6, .int (inWayOfI z ir iw m0)), (0, .ref (a 0)), (1, .int (nI m0)), (4, .int (nI ir))]) hx hb dX5_placeFor_100 hl (k := 7) rfl (kx_inc 1) (by decide) rfl (fun ls hl => ?_)
          refine lv_goto (tgt := 21) hx hb dX5_placeFor_103 (by decide) ?_
          have e21_30 : (nI ((100 * ir) + iw) : Int32) = ((itN (iw + 1) (pfS z m0 ir) (itN ir (pfR z m0) (-1, nI 0))).1) := by first | rfl | omega | (simp [placeForI, pfR, pfS, itN_s, Int32.not_lt, Int32.not_le, c_15_4, Nat.not_le.mpr c_15_4, c_32_12, Nat.not_lt.mpr c_32_12, c_49_19, c_54_26]; done) | (simp [placeForI, pfR, pfS, itN_s, Int32.not_lt, Int32.not_le, c_15_4, Nat.not_le.mpr c_15_4, c_32_12, Nat.not_lt.mpr c_32_12, c_49_19, c_54_26]; omega) | (revert c_15_4 c_32_12 c_49_19 c_54_26; simp +contextual [placeForI, pfR, pfS, itN_s, Int32.not_lt, Int32.not_le]; done) | (revert c_15_4 c_32_12 c_49_19 c_54_26; simp +contextual [placeForI, pfR, pfS, itN_s, Int32.not_lt, Int32.not_le]; omega)
          have e21_31 : (inWayOfI z ir iw m0 : Int32) = ((itN (iw + 1) (pfS z m0 ir) (itN ir (pfR z m0) (-1, nI 0))).2) := by first | rfl | omega | (simp [placeForI, pfR, pfS, itN_s, Int32.not_lt, Int32.not_le, c_15_4, Nat.not_le.mpr c_15_4, c_32_12, Nat.not_lt.mpr c_32_12, c_49_19, c_54_26]; done) | (simp [placeForI, pfR, pfS, itN_s, Int32.not_lt, Int32.not_le, c_15_4, Nat.not_le.mpr c_15_4, c_32_12, Nat.not_lt.mpr c_32_12, c_49_19, c_54_26]; omega) | (revert c_15_4 c_32_12 c_49_19 c_54_26; simp +contextual [placeForI, pfR, pfS, itN_s, Int32.not_lt, Int32.not_le]; done) | (revert c_15_4 c_32_12 c_49_19 c_54_26; simp +contextual [placeForI, pfR, pfS, itN_s, Int32.not_lt, Int32.not_le]; omega)
          have e21_32 : (iw + 1 : Nat) = ((iw + 1)) := by first | rfl | omega | (simp [placeForI, pfR, pfS, itN_s, Int32.not_lt, Int32.not_le, c_15_4, Nat.not_le.mpr c_15_4, c_32_12, Nat.not_lt.mpr c_32_12, c_49_19, c_54_26]; done) | (simp [placeForI, pfR, pfS, itN_s, Int32.not_lt, Int32.not_le, c_15_4, Nat.not_le.mpr c_15_4, c_32_12, Nat.not_lt.mpr c_32_12, c_49_19, c_54_26]; omega) | (revert c_15_4 c_32_12 c_49_19 c_54_26; simp +contextual [placeForI, pfR, pfS, itN_s, Int32.not_lt, Int32.not_le]; done) | (revert c_15_4 c_32_12 c_49_19 c_54_26; simp +contextual [placeForI, pfR, pfS, itN_s, Int32.not_lt, Int32.not_le]; omega)
          have hl21_33 : lv_has ls 8 [(0, .ref (a 0)), (1, .int (nI m0)), (4, .int (nI ir)), (2, .int ((itN (iw + 1) (pfS z m0 ir) (itN ir (pfR z m0) (-1, nI 0))).1)), (3, .int ((itN (iw + 1) (pfS z m0 ir) (itN ir (pfR z m0) (-1, nI 0))).2)), (5, .int (nI (iw + 1)))] := lv_eqv (l1 := [(0, .ref (a 0)), (1, .int (nI m0)), (4, .int (nI ir)), (2, .int (nI ((100 * ir) + iw))), (3, .int (inWayOfI z ir iw m0)), (5, .int (nI (iw + 1)))]) (lv_sub hl [5, 6, 7, 2, 1, 0] rfl) (lv_ce rfl (lv_ce rfl (lv_ce rfl (lv_ce (congrArg Value.int e21_30) (lv_ce (congrArg Value.int e21_31) (lv_ce (congrArg (fun x => Value.int (nI x)) e21_32) rfl))))))
          exact ih21 _ (by omega) (hl21_33)
        · have c_54_27 : ¬ (((itN iw (pfS z m0 ir) (itN ir (pfR z m0) (-1, nI 0))).1) : Int32) = (-1) := c_54_27
          refine lv_iload hx hb dX5_placeFor_57 (lv_at hl 0 rfl) ?_
          refine lv_iload_n hx hb dX5_placeFor_59 rfl (lv_at hl 5 rfl) ?_
          refine lv_icmp_ge (tgt := 67) hx hb dX5_placeFor_60 (by decide) (fun c_60_34 => ?_) (fun c_60_35 => ?_)
          · have c_60_34 : (((itN iw (pfS z m0 ir) (itN ir (pfR z m0) (-1, nI 0))).2) : Int32) ≤ (inWayOfI z ir iw m0) := c_60_34
            refine lv_iconst (v := nI 0) hx hb dX5_placeFor_67 (by decide) ?_
            refine lv_istore (lv' := [(7, .int (nI 0)), (6, .int (inWayOfI z ir iw m0)), (0, .ref (a 0)), (1, .int (nI m0)), (4, .int (nI ir)), (2, .int ((itN iw (pfS z m0 ir) (itN ir (pfR z m0) (-1, nI 0))).1)), (3, .int ((itN iw (pfS z m0 ir) (itN ir (pfR z m0) (-1, nI 0))).2)), (5, .int (nI iw))]) hx hb dX5_placeFor_68 hl (by decide) rfl (fun ls hl => ?_)
            refine lv_iload hx hb dX5_placeFor_70 (lv_at hl 0 rfl) ?_
            refine kx_if_eq (tgt := 86) hx hb (by omega) dX5_placeFor_72 (by decide) (fun c_72_36 => ?_) (fun c => absurd c (by omega))
            refine lv_iload_n hx hb dX5_placeFor_86 rfl (lv_at hl 5 rfl) ?_
            refine lv_istore_n (lv' := [(2, .int ((itN iw (pfS z m0 ir) (itN ir (pfR z m0) (-1, nI 0))).1)), (7, .int (nI 0)), (6, .int (inWayOfI z ir iw m0)), (0, .ref (a 0)), (1, .int (nI m0)), (4, .int (nI ir)), (3, .int ((itN iw (pfS z m0 ir) (itN ir (pfR z m0) (-1, nI 0))).2)), (5, .int (nI iw))]) hx hb dX5_placeFor_87 rfl hl (by decide) rfl (fun ls hl => ?_)
            refine lv_iload hx hb dX5_placeFor_88 (lv_at hl 1 rfl) ?_
            refine kx_if_eq (tgt := 98) hx hb (by omega) dX5_placeFor_90 (by decide) (fun c_90_37 => ?_) (fun c => absurd c (by omega))
            refine lv_iload_n hx hb dX5_placeFor_98 rfl (lv_at hl 6 rfl) ?_
            refine lv_istore_n (lv' := [(3, .int ((itN iw (pfS z m0 ir) (itN ir (pfR z m0) (-1, nI 0))).2)), (2, .int ((itN iw (pfS z m0 ir) (itN ir (pfR z m0) (-1, nI 0))).1)), (7, .int (nI 0)), (6, .int (inWayOfI z ir iw m0)), (0, .ref (a 0)), (1, .int (nI m0)), (4, .int (nI ir)), (5, .int (nI iw))]) hx hb dX5_placeFor_99 rfl hl (by decide) rfl (fun ls hl => ?_)
            refine lv_iinc (v := nI (iw + 1)) (lv' := [(5, .int (nI (iw + 1))), (3, .int ((itN iw (pfS z m0 ir) (itN ir (pfR z m0) (-1, nI 0))).2)), (2, .int ((itN iw (pfS z m0 ir) (itN ir (pfR z m0) (-1, nI 0))).1)), (7, .int (nI 0)), (6, .int (inWayOfI z ir iw m0)), (0, .ref (a 0)), (1, .int (nI m0)), (4, .int (nI ir))]) hx hb dX5_placeFor_100 hl (k := 7) rfl (kx_inc 1) (by decide) rfl (fun ls hl => ?_)
            refine lv_goto (tgt := 21) hx hb dX5_placeFor_103 (by decide) ?_
            have e21_38 : ((itN iw (pfS z m0 ir) (itN ir (pfR z m0) (-1, nI 0))).1 : Int32) = ((itN (iw + 1) (pfS z m0 ir) (itN ir (pfR z m0) (-1, nI 0))).1) := by first | rfl | omega | (simp [placeForI, pfR, pfS, itN_s, Int32.not_lt, Int32.not_le, c_15_4, Nat.not_le.mpr c_15_4, c_32_12, Nat.not_lt.mpr c_32_12, c_49_19, c_54_27, c_60_34, Int32.not_lt.mpr c_60_34]; done) | (simp [placeForI, pfR, pfS, itN_s, Int32.not_lt, Int32.not_le, c_15_4, Nat.not_le.mpr c_15_4, c_32_12, Nat.not_lt.mpr c_32_12, c_49_19, c_54_27, c_60_34, Int32.not_lt.mpr c_60_34]; omega) | (revert c_15_4 c_32_12 c_49_19 c_54_27 c_60_34; simp +contextual [placeForI, pfR, pfS, itN_s, Int32.not_lt, Int32.not_le]; done) | (revert c_15_4 c_32_12 c_49_19 c_54_27 c_60_34; simp +contextual [placeForI, pfR, pfS, itN_s, Int32.not_lt, Int32.not_le]; omega)
            have e21_39 : ((itN iw (pfS z m0 ir) (itN ir (pfR z m0) (-1, nI 0))).2 : Int32) = ((itN (iw + 1) (pfS z m0 ir) (itN ir (pfR z m0) (-1, nI 0))).2) := by first | rfl | omega | (simp [placeForI, pfR, pfS, itN_s, Int32.not_lt, Int32.not_le, c_15_4, Nat.not_le.mpr c_15_4, c_32_12, Nat.not_lt.mpr c_32_12, c_49_19, c_54_27, c_60_34, Int32.not_lt.mpr c_60_34]; done) | (simp [placeForI, pfR, pfS, itN_s, Int32.not_lt, Int32.not_le, c_15_4, Nat.not_le.mpr c_15_4, c_32_12, Nat.not_lt.mpr c_32_12, c_49_19, c_54_27, c_60_34, Int32.not_lt.mpr c_60_34]; omega) | (revert c_15_4 c_32_12 c_49_19 c_54_27 c_60_34; simp +contextual [placeForI, pfR, pfS, itN_s, Int32.not_lt, Int32.not_le]; done) | (revert c_15_4 c_32_12 c_49_19 c_54_27 c_60_34; simp +contextual [placeForI, pfR, pfS, itN_s, Int32.not_lt, Int32.not_le]; omega)
            have e21_40 : (iw + 1 : Nat) = ((iw + 1)) := by first | rfl | omega | (simp [placeForI, pfR, pfS, itN_s, Int32.not_lt, Int32.not_le, c_15_4, Nat.not_le.mpr c_15_4, c_32_12, Nat.not_lt.mpr c_32_12, c_49_19, c_54_27, c_60_34, Int32.not_lt.mpr c_60_34]; done) | (simp [placeForI, pfR, pfS, itN_s, Int32.not_lt, Int32.not_le, c_15_4, Nat.not_le.mpr c_15_4, c_32_12, Nat.not_lt.mpr c_32_12, c_49_19, c_54_27, c_60_34, Int32.not_lt.mpr c_60_34]; omega) | (revert c_15_4 c_32_12 c_49_19 c_54_27 c_60_34; simp +contextual [placeForI, pfR, pfS, itN_s, Int32.not_lt, Int32.not_le]; done) | (revert c_15_4 c_32_12 c_49_19 c_54_27 c_60_34; simp +contextual [placeForI, pfR, pfS, itN_s, Int32.not_lt, Int32.not_le]; omega)
            have hl21_41 : lv_has ls 8 [(0, .ref (a 0)), (1, .int (nI m0)), (4, .int (nI ir)), (2, .int ((itN (iw + 1) (pfS z m0 ir) (itN ir (pfR z m0) (-1, nI 0))).1)), (3, .int ((itN (iw + 1) (pfS z m0 ir) (itN ir (pfR z m0) (-1, nI 0))).2)), (5, .int (nI (iw + 1)))] := lv_eqv (l1 := [(0, .ref (a 0)), (1, .int (nI m0)), (4, .int (nI ir)), (2, .int ((itN iw (pfS z m0 ir) (itN ir (pfR z m0) (-1, nI 0))).1)), (3, .int ((itN iw (pfS z m0 ir) (itN ir (pfR z m0) (-1, nI 0))).2)), (5, .int (nI (iw + 1)))]) (lv_sub hl [5, 6, 7, 2, 1, 0] rfl) (lv_ce rfl (lv_ce rfl (lv_ce rfl (lv_ce (congrArg Value.int e21_38) (lv_ce (congrArg Value.int e21_39) (lv_ce (congrArg (fun x => Value.int (nI x)) e21_40) rfl))))))
            exact ih21 _ (by omega) (hl21_41)
          · have c_60_35 : ¬ (((itN iw (pfS z m0 ir) (itN ir (pfR z m0) (-1, nI 0))).2) : Int32) ≤ (inWayOfI z ir iw m0) := c_60_35
            refine lv_iconst (v := nI 1) hx hb dX5_placeFor_63 (by decide) ?_
            refine lv_goto (tgt := 68) hx hb dX5_placeFor_64 (by decide) ?_
            refine lv_istore (lv' := [(7, .int (nI 1)), (6, .int (inWayOfI z ir iw m0)), (0, .ref (a 0)), (1, .int (nI m0)), (4, .int (nI ir)), (2, .int ((itN iw (pfS z m0 ir) (itN ir (pfR z m0) (-1, nI 0))).1)), (3, .int ((itN iw (pfS z m0 ir) (itN ir (pfR z m0) (-1, nI 0))).2)), (5, .int (nI iw))]) hx hb dX5_placeFor_68 hl (by decide) rfl (fun ls hl => ?_)
            refine lv_iload hx hb dX5_placeFor_70 (lv_at hl 0 rfl) ?_
            refine kx_if_eq (tgt := 86) hx hb (by omega) dX5_placeFor_72 (by decide) (fun c => absurd c (by omega)) (fun c_72_42 => ?_)
            refine lv_bipush (v := nI 100) hx hb dX5_placeFor_75 (by decide) ?_
            refine lv_iload hx hb dX5_placeFor_77 (lv_at hl 4 rfl) ?_
            refine kx_imul hx hb dX5_placeFor_79 ?_
            refine lv_iload hx hb dX5_placeFor_80 (lv_at hl 7 rfl) ?_
            refine kx_iadd hx hb dX5_placeFor_82 ?_
            refine lv_goto (tgt := 87) hx hb dX5_placeFor_83 (by decide) ?_
            refine lv_istore_n (lv' := [(2, .int (nI ((100 * ir) + iw))), (7, .int (nI 1)), (6, .int (inWayOfI z ir iw m0)), (0, .ref (a 0)), (1, .int (nI m0)), (4, .int (nI ir)), (3, .int ((itN iw (pfS z m0 ir) (itN ir (pfR z m0) (-1, nI 0))).2)), (5, .int (nI iw))]) hx hb dX5_placeFor_87 rfl hl (by decide) rfl (fun ls hl => ?_)
            refine lv_iload hx hb dX5_placeFor_88 (lv_at hl 1 rfl) ?_
            refine kx_if_eq (tgt := 98) hx hb (by omega) dX5_placeFor_90 (by decide) (fun c => absurd c (by omega)) (fun c_90_43 => ?_)
            refine lv_iload hx hb dX5_placeFor_93 (lv_at hl 2 rfl) ?_
            refine lv_goto (tgt := 99) hx hb dX5_placeFor_95 (by decide) ?_
            refine lv_istore_n (lv' := [(3, .int (inWayOfI z ir iw m0)), (2, .int (nI ((100 * ir) + iw))), (7, .int (nI 1)), (6, .int (inWayOfI z ir iw m0)), (0, .ref (a 0)), (1, .int (nI m0)), (4, .int (nI ir)), (5, .int (nI iw))]) hx hb dX5_placeFor_99 rfl hl (by decide) rfl (fun ls hl => ?_)
            refine lv_iinc (v := nI (iw + 1)) (lv' := [(5, .int (nI (iw + 1))), (3, .int (inWayOfI z ir iw m0)), (2, .int (nI ((100 * ir) + iw))), (7, .int (nI 1)), (6, .int (inWayOfI z ir iw m0)), (0, .ref (a 0)), (1, .int (nI m0)), (4, .int (nI ir))]) hx hb dX5_placeFor_100 hl (k := 7) rfl (kx_inc 1) (by decide) rfl (fun ls hl => ?_)
            refine lv_goto (tgt := 21) hx hb dX5_placeFor_103 (by decide) ?_
            have e21_44 : (nI ((100 * ir) + iw) : Int32) = ((itN (iw + 1) (pfS z m0 ir) (itN ir (pfR z m0) (-1, nI 0))).1) := by first | rfl | omega | (simp [placeForI, pfR, pfS, itN_s, Int32.not_lt, Int32.not_le, c_15_4, Nat.not_le.mpr c_15_4, c_32_12, Nat.not_lt.mpr c_32_12, c_49_19, c_54_27, c_60_35, Int32.not_le.mp c_60_35]; done) | (simp [placeForI, pfR, pfS, itN_s, Int32.not_lt, Int32.not_le, c_15_4, Nat.not_le.mpr c_15_4, c_32_12, Nat.not_lt.mpr c_32_12, c_49_19, c_54_27, c_60_35, Int32.not_le.mp c_60_35]; omega) | (revert c_15_4 c_32_12 c_49_19 c_54_27 c_60_35; simp +contextual [placeForI, pfR, pfS, itN_s, Int32.not_lt, Int32.not_le]; done) | (revert c_15_4 c_32_12 c_49_19 c_54_27 c_60_35; simp +contextual [placeForI, pfR, pfS, itN_s, Int32.not_lt, Int32.not_le]; omega)
            have e21_45 : (inWayOfI z ir iw m0 : Int32) = ((itN (iw + 1) (pfS z m0 ir) (itN ir (pfR z m0) (-1, nI 0))).2) := by first | rfl | omega | (simp [placeForI, pfR, pfS, itN_s, Int32.not_lt, Int32.not_le, c_15_4, Nat.not_le.mpr c_15_4, c_32_12, Nat.not_lt.mpr c_32_12, c_49_19, c_54_27, c_60_35, Int32.not_le.mp c_60_35]; done) | (simp [placeForI, pfR, pfS, itN_s, Int32.not_lt, Int32.not_le, c_15_4, Nat.not_le.mpr c_15_4, c_32_12, Nat.not_lt.mpr c_32_12, c_49_19, c_54_27, c_60_35, Int32.not_le.mp c_60_35]; omega) | (revert c_15_4 c_32_12 c_49_19 c_54_27 c_60_35; simp +contextual [placeForI, pfR, pfS, itN_s, Int32.not_lt, Int32.not_le]; done) | (revert c_15_4 c_32_12 c_49_19 c_54_27 c_60_35; simp +contextual [placeForI, pfR, pfS, itN_s, Int32.not_lt, Int32.not_le]; omega)
            have e21_46 : (iw + 1 : Nat) = ((iw + 1)) := by first | rfl | omega | (simp [placeForI, pfR, pfS, itN_s, Int32.not_lt, Int32.not_le, c_15_4, Nat.not_le.mpr c_15_4, c_32_12, Nat.not_lt.mpr c_32_12, c_49_19, c_54_27, c_60_35, Int32.not_le.mp c_60_35]; done) | (simp [placeForI, pfR, pfS, itN_s, Int32.not_lt, Int32.not_le, c_15_4, Nat.not_le.mpr c_15_4, c_32_12, Nat.not_lt.mpr c_32_12, c_49_19, c_54_27, c_60_35, Int32.not_le.mp c_60_35]; omega) | (revert c_15_4 c_32_12 c_49_19 c_54_27 c_60_35; simp +contextual [placeForI, pfR, pfS, itN_s, Int32.not_lt, Int32.not_le]; done) | (revert c_15_4 c_32_12 c_49_19 c_54_27 c_60_35; simp +contextual [placeForI, pfR, pfS, itN_s, Int32.not_lt, Int32.not_le]; omega)
            have hl21_47 : lv_has ls 8 [(0, .ref (a 0)), (1, .int (nI m0)), (4, .int (nI ir)), (2, .int ((itN (iw + 1) (pfS z m0 ir) (itN ir (pfR z m0) (-1, nI 0))).1)), (3, .int ((itN (iw + 1) (pfS z m0 ir) (itN ir (pfR z m0) (-1, nI 0))).2)), (5, .int (nI (iw + 1)))] := lv_eqv (l1 := [(0, .ref (a 0)), (1, .int (nI m0)), (4, .int (nI ir)), (2, .int (nI ((100 * ir) + iw))), (3, .int (inWayOfI z ir iw m0)), (5, .int (nI (iw + 1)))]) (lv_sub hl [5, 6, 7, 2, 1, 0] rfl) (lv_ce rfl (lv_ce rfl (lv_ce rfl (lv_ce (congrArg Value.int e21_44) (lv_ce (congrArg Value.int e21_45) (lv_ce (congrArg (fun x => Value.int (nI x)) e21_46) rfl))))))
            exact ih21 _ (by omega) (hl21_47)
set_option maxHeartbeats 4000000 in
set_option maxRecDepth 100000 in
theorem c_X5_upwards (l : Launch) (D : va_G) (cI cC cH cL : ClassId)  (v0 : Int32) (b0 : Int32) (hb0 : ¬ b0 = 0) : Met l yX5_upwards wsX5_upwards ({ frames := 0, cells := 0, slots := 0, locals := 0 }) (kp [.int v0, .int b0] D ([]) (kT cI cC cH cL)) (kr (.returned (some (.int (upw v0 b0))))) 0 0 (fun _ => False) := by
  refine Met.ofW (cc := cX5_upwards) (maxL := 2) (ret := (some .int)) (by decide) rfl ?_
  intro p e s m args below meth c s₁ B hml hv
  obtain ⟨rfl, hP, hK⟩ := hv
  have hx := B.exec
  have hb := B.bytes
  have hrt := B.returns
  have hts := atoms_spec (ws := wsX5_upwards) B.pre
  have hown : s.vm.findClass RX5 = some m.cls := findClass_of_methodNamed B.named
  have hlocks := B.notSynchronized
  have hl := lv_entry ([.int v0, .int b0]) (n := 2) (Nat.le_of_ble_eq_true rfl)
  rw [lg_entry_eq]
  generalize (lg_sl ([.int v0, .int b0]) ++ List.replicate (2 - (lg_sl ([.int v0, .int b0])).length) Slot.unset).toArray = ls at hl ⊢
  have hl : lv_has ls 2 [(0, .int v0), (1, .int b0)] := hl
  refine lv_iload_n hx hb dX5_upwards_0 rfl (lv_at hl 0 rfl) ?_
  refine lv_if_le (tgt := 14) hx hb dX5_upwards_1 (by decide) (fun c_1_0 => ?_) (fun c_1_1 => ?_)
  · have c_1_0 : (v0 : Int32) ≤ 0 := c_1_0
    refine lv_iload_n hx hb dX5_upwards_14 rfl (lv_at hl 0 rfl) ?_
    refine lv_ineg hx hb dX5_upwards_15 ?_
    refine lv_iload_n hx hb dX5_upwards_16 rfl (lv_at hl 1 rfl) ?_
    refine lv_idiv hx hb dX5_upwards_17 (by exact hb0) ?_
    refine lv_ineg hx hb dX5_upwards_18 ?_
    have e_2 : ((-((-v0) / b0)) : Int32) = (upw v0 b0) := by first | rfl | omega | (simp [upw, Int32.not_lt, Int32.not_le, c_1_0, Int32.not_lt.mpr c_1_0]; done) | (simp [upw, Int32.not_lt, Int32.not_le, c_1_0, Int32.not_lt.mpr c_1_0]; omega) | (revert c_1_0; simp +contextual [upw, Int32.not_lt, Int32.not_le]; done) | (revert c_1_0; simp +contextual [upw, Int32.not_lt, Int32.not_le]; omega)
    exact kr_iret hx hb hrt hlocks e_2 rfl dX5_upwards_19
  · have c_1_1 : ¬ (v0 : Int32) ≤ 0 := c_1_1
    refine lv_iload_n hx hb dX5_upwards_4 rfl (lv_at hl 0 rfl) ?_
    refine lv_iload_n hx hb dX5_upwards_5 rfl (lv_at hl 1 rfl) ?_
    refine lv_iadd hx hb dX5_upwards_6 ?_
    refine lv_iconst (v := nI 1) hx hb dX5_upwards_7 (by decide) ?_
    refine lv_isub hx hb dX5_upwards_8 ?_
    refine lv_iload_n hx hb dX5_upwards_9 rfl (lv_at hl 1 rfl) ?_
    refine lv_idiv hx hb dX5_upwards_10 (by exact hb0) ?_
    refine lv_goto (tgt := 19) hx hb dX5_upwards_11 (by decide) ?_
    have e_3 : ((((v0 + b0) - (nI 1)) / b0) : Int32) = (upw v0 b0) := by first | rfl | omega | (simp [upw, Int32.not_lt, Int32.not_le, c_1_1, Int32.not_le.mp c_1_1]; done) | (simp [upw, Int32.not_lt, Int32.not_le, c_1_1, Int32.not_le.mp c_1_1]; omega) | (revert c_1_1; simp +contextual [upw, Int32.not_lt, Int32.not_le]; done) | (revert c_1_1; simp +contextual [upw, Int32.not_lt, Int32.not_le]; omega)
    exact kr_iret hx hb hrt hlocks e_3 rfl dX5_upwards_19
set_option maxRecDepth 20000 in
theorem iX5_leastFor_5 : ∀ w ∈ wsX50, w ∈ wsX5_leastFor := by decide +kernel
set_option maxHeartbeats 4000000 in
set_option maxRecDepth 100000 in
theorem c_X5_leastFor (l : Launch) (D : va_G) (cI cC cH cL : ClassId) (a : Nat → Nat) (z zh tx pa wy : ZZ) (st le th rd nu pt : Int32) (za : Int64) (r0 : Nat) (hw : WF z) (hd : WD z) (hr : r0 < nR z) : Met l yX5_leastFor wsX5_leastFor ({ frames := 1, cells := 0, slots := 0, locals := 22 }) (kp [.ref (a 0), .int (nI r0)] D (MW a cI z st zh le tx th pa rd nu pt wy za) (kT cI cC cH cL)) (kr (.returned (some (.int (leastForI z r0))))) 0 0 (fun _ => False) := by
  refine Met.ofW (cc := cX5_leastFor) (maxL := 6) (ret := (some .int)) (by decide) rfl ?_
  intro p e s m args below meth c s₁ B hml hv
  obtain ⟨rfl, hP, hK⟩ := hv
  have hx := B.exec
  have hb := B.bytes
  have hrt := B.returns
  have hts := atoms_spec (ws := wsX5_leastFor) B.pre
  have hown : s.vm.findClass RX5 = some m.cls := findClass_of_methodNamed B.named
  have hlocks := B.notSynchronized
  have hl := lv_entry ([.ref (a 0), .int (nI r0)]) (n := 6) (Nat.le_of_ble_eq_true rfl)
  rw [lg_entry_eq]
  generalize (lg_sl ([.ref (a 0), .int (nI r0)]) ++ List.replicate (6 - (lg_sl ([.ref (a 0), .int (nI r0)])).length) Slot.unset).toArray = ls at hl ⊢
  have hl : lv_has ls 6 [(0, .ref (a 0)), (1, .int (nI r0))] := hl
  have hR10 := wf_R10 hw
  have hC4 := wf_C4 hw
  refine lv_iconst (v := nI 0) hx hb dX5_leastFor_0 (by decide) ?_
  refine lv_istore_n (lv' := [(2, .int (nI 0)), (0, .ref (a 0)), (1, .int (nI r0))]) hx hb dX5_leastFor_1 rfl hl (by decide) rfl (fun ls hl => ?_)
  refine lv_iconst (v := nI 0) hx hb dX5_leastFor_2 (by decide) ?_
  refine lv_istore_n (lv' := [(3, .int (nI 0)), (2, .int (nI 0)), (0, .ref (a 0)), (1, .int (nI r0))]) hx hb dX5_leastFor_3 rfl hl (by decide) rfl (fun ls hl => ?_)
  have e4_0 : (nI 0 : Int32) = (itN 0 (lfS z r0) (nI 0)) := by first | rfl | omega | (simp [leastForI, lfS, hgtFor, headP, itN_s, Int32.not_lt, Int32.not_le]; done) | (simp [leastForI, lfS, hgtFor, headP, itN_s, Int32.not_lt, Int32.not_le]; omega)
  have hl4_1 : lv_has ls 6 [(0, .ref (a 0)), (1, .int (nI r0)), (2, .int (itN 0 (lfS z r0) (nI 0))), (3, .int (nI 0))] := lv_eqv (l1 := [(0, .ref (a 0)), (1, .int (nI r0)), (2, .int (nI 0)), (3, .int (nI 0))]) (lv_sub hl [2, 3, 1, 0] rfl) (lv_ce rfl (lv_ce rfl (lv_ce (congrArg Value.int e4_0) (lv_ce rfl rfl))))
  refine kx_up (fun k ls => lv_has ls 6 [(0, .ref (a 0)), (1, .int (nI r0)), (2, .int (itN k (lfS z r0) (nI 0))), (3, .int (nI k))]) (0) (r0) (by omega) ls (hl4_1) ?_
  intro ia ls hial hiah hp ih4
  have hl := hp
  refine lv_iload_n hx hb dX5_leastFor_4 rfl (lv_at hl 3 rfl) ?_
  refine lv_iload_n hx hb dX5_leastFor_5 rfl (lv_at hl 1 rfl) ?_
  refine kx_icmp_ge (tgt := 91) hx hb (by omega) (by omega) dX5_leastFor_6 (by decide) (fun c_6_2 => ?_) (fun c_6_3 => ?_)
  · have hq4 : r0 = ia := by omega
    subst hq4
    refine lv_iload_n hx hb dX5_leastFor_91 rfl (lv_at hl 2 rfl) ?_
    have e_5 : (itN r0 (lfS z r0) (nI 0) : Int32) = (leastForI z r0) := by first | rfl | omega | (simp [leastForI, lfS, hgtFor, headP, itN_s, Int32.not_lt, Int32.not_le, c_6_2, Nat.not_lt.mpr c_6_2]; done) | (simp [leastForI, lfS, hgtFor, headP, itN_s, Int32.not_lt, Int32.not_le, c_6_2, Nat.not_lt.mpr c_6_2]; omega) | (revert c_6_2; simp +contextual [leastForI, lfS, hgtFor, headP, itN_s, Int32.not_lt, Int32.not_le]; done) | (revert c_6_2; simp +contextual [leastForI, lfS, hgtFor, headP, itN_s, Int32.not_lt, Int32.not_le]; omega)
    exact kr_iret hx hb hrt hlocks e_5 rfl dX5_leastFor_92
  · refine lv_aload_n hx hb dX5_leastFor_9 rfl (lv_at hl 0 rfl) ?_
    refine lv_iload_n hx hb dX5_leastFor_10 rfl (lv_at hl 3 rfl) ?_
    refine lv_iconst (v := nI 1) hx hb dX5_leastFor_11 (by decide) ?_
    refine kr_V (As := [.int (nI ia), .int (nI 1)]) (rest := []) (C := RX5) (own := RX5) ⟨hx, hb, hml, hown, hts⟩ (c_X5_of l D cI cC cH cL a z zh tx pa wy st le th rd nu pt za ia 1 (by first | assumption | omega)) (cwV 2 hts gX5_leastFor_X5_of rfl rfl rfl k_X5_of ⟨Nat.le_of_ble_eq_true rfl, Nat.le_of_ble_eq_true rfl⟩) hP hK (va_recv (q := (RX5, TX5, 12)) hK hP (ci := 5) (q0 := 0) rfl rfl) rfl hl.1 rfl (Nat.le_of_ble_eq_true rfl) dX5_leastFor_12 ⟨Nat.le_of_ble_eq_true rfl, Nat.le_of_ble_eq_true rfl⟩ ?_
    refine lv_aload_n hx hb dX5_leastFor_15 rfl (lv_at hl 0 rfl) ?_
    refine va_get (D := D) (ci := 5) (v := .ref (a 1)) (C := RX5) (T := TX5) (N := 12) hx hb hts iX5_leastFor_5 hown hK hP 0 rfl rfl 0 (by decide) (hts (.fieldLink RX5 7 "HallSightsModel" "z" "[I") (List.mem_of_getElem? (i := 1) rfl)) (fun _ h9 => h9) rfl dX5_leastFor_16 ?_
    refine lv_iconst (v := nI 1) hx hb dX5_leastFor_19 (by decide) ?_
    refine kx_iald hx hb hK hP 1 0 rfl rfl (by omega) (by decide) dX5_leastFor_20 ?_
    refine lv_iadd hx hb dX5_leastFor_21 ?_
    refine lv_aload_n hx hb dX5_leastFor_22 rfl (lv_at hl 0 rfl) ?_
    refine va_get (D := D) (ci := 5) (v := .ref (a 1)) (C := RX5) (T := TX5) (N := 12) hx hb hts iX5_leastFor_5 hown hK hP 0 rfl rfl 0 (by decide) (hts (.fieldLink RX5 7 "HallSightsModel" "z" "[I") (List.mem_of_getElem? (i := 1) rfl)) (fun _ h9 => h9) rfl dX5_leastFor_23 ?_
    refine lv_iconst (v := nI 2) hx hb dX5_leastFor_26 (by decide) ?_
    refine kx_iald hx hb hK hP 1 0 rfl rfl (by omega) (by decide) dX5_leastFor_27 ?_
    refine lv_iadd hx hb dX5_leastFor_28 ?_
    refine lv_aload_n hx hb dX5_leastFor_29 rfl (lv_at hl 0 rfl) ?_
    refine va_get (D := D) (ci := 5) (v := .ref (a 1)) (C := RX5) (T := TX5) (N := 12) hx hb hts iX5_leastFor_5 hown hK hP 0 rfl rfl 0 (by decide) (hts (.fieldLink RX5 7 "HallSightsModel" "z" "[I") (List.mem_of_getElem? (i := 1) rfl)) (fun _ h9 => h9) rfl dX5_leastFor_30 ?_
    refine lv_iconst (v := nI 0) hx hb dX5_leastFor_33 (by decide) ?_
    refine kx_iald hx hb hK hP 1 0 rfl rfl (by omega) (by decide) dX5_leastFor_34 ?_
    refine lv_isub hx hb dX5_leastFor_35 ?_
    refine lv_istore (lv' := [(4, .int ((((z (5 + 4 * ia + 1)) + (z 1)) + (z 2)) - (z 0))), (0, .ref (a 0)), (1, .int (nI r0)), (2, .int (itN ia (lfS z r0) (nI 0))), (3, .int (nI ia))]) hx hb dX5_leastFor_36 hl (by decide) rfl (fun ls hl => ?_)
    refine lv_iload hx hb dX5_leastFor_38 (lv_at hl 0 rfl) ?_
    refine lv_aload_n hx hb dX5_leastFor_40 rfl (lv_at hl 1 rfl) ?_
    refine lv_iload_n hx hb dX5_leastFor_41 rfl (lv_at hl 2 rfl) ?_
    refine lv_iconst (v := nI 0) hx hb dX5_leastFor_42 (by decide) ?_
    refine kr_V (As := [.int (nI r0), .int (nI 0)]) (rest := [.int ((((z (5 + 4 * ia + 1)) + (z 1)) + (z 2)) - (z 0))]) (C := RX5) (own := RX5) ⟨hx, hb, hml, hown, hts⟩ (c_X5_of l D cI cC cH cL a z zh tx pa wy st le th rd nu pt za r0 0 (by first | assumption | omega)) (cwV 2 hts gX5_leastFor_X5_of rfl rfl rfl k_X5_of ⟨Nat.le_of_ble_eq_true rfl, Nat.le_of_ble_eq_true rfl⟩) hP hK (va_recv (q := (RX5, TX5, 12)) hK hP (ci := 5) (q0 := 0) rfl rfl) rfl hl.1 rfl (Nat.le_of_ble_eq_true rfl) dX5_leastFor_43 ⟨Nat.le_of_ble_eq_true rfl, Nat.le_of_ble_eq_true rfl⟩ ?_
    refine lv_imul hx hb dX5_leastFor_46 ?_
    refine lv_aload_n hx hb dX5_leastFor_47 rfl (lv_at hl 1 rfl) ?_
    refine lv_iload_n hx hb dX5_leastFor_48 rfl (lv_at hl 4 rfl) ?_
    refine lv_iconst (v := nI 0) hx hb dX5_leastFor_49 (by decide) ?_
    refine kr_V (As := [.int (nI ia), .int (nI 0)]) (rest := [.int (((((z (5 + 4 * ia + 1)) + (z 1)) + (z 2)) - (z 0)) * (z (5 + 4 * r0)))]) (C := RX5) (own := RX5) ⟨hx, hb, hml, hown, hts⟩ (c_X5_of l D cI cC cH cL a z zh tx pa wy st le th rd nu pt za ia 0 (by first | assumption | omega)) (cwV 2 hts gX5_leastFor_X5_of rfl rfl rfl k_X5_of ⟨Nat.le_of_ble_eq_true rfl, Nat.le_of_ble_eq_true rfl⟩) hP hK (va_recv (q := (RX5, TX5, 12)) hK hP (ci := 5) (q0 := 0) rfl rfl) rfl hl.1 rfl (Nat.le_of_ble_eq_true rfl) dX5_leastFor_50 ⟨Nat.le_of_ble_eq_true rfl, Nat.le_of_ble_eq_true rfl⟩ ?_
    refine kr_S (As := [.int (((((z (5 + 4 * ia + 1)) + (z 1)) + (z 2)) - (z 0)) * (z (5 + 4 * r0))), .int (z (5 + 4 * ia))]) (rest := []) (own := RX5) ⟨hx, hb, hml, hown, hts⟩ (c_X5_upwards l D cI cC cH cL  (((((z (5 + 4 * ia + 1)) + (z 1)) + (z 2)) - (z 0)) * (z (5 + 4 * r0))) (z (5 + 4 * ia)) (by exact hd _ (by omega))) (va_cwS 2 hts gX5_leastFor_X5_upwards rfl rfl rfl k_X5_upwardsS ⟨Nat.le_of_ble_eq_true rfl, Nat.le_of_ble_eq_true rfl⟩) (hP.sub (ws' := []) [] rfl) hK rfl hl.1 rfl (Nat.le_of_ble_eq_true rfl) dX5_leastFor_53 ⟨Nat.le_of_ble_eq_true rfl, Nat.le_of_ble_eq_true rfl⟩ ?_
    refine lv_aload_n hx hb dX5_leastFor_56 rfl (lv_at hl 1 rfl) ?_
    refine va_get (D := D) (ci := 5) (v := .ref (a 1)) (C := RX5) (T := TX5) (N := 12) hx hb hts iX5_leastFor_5 hown hK hP 0 rfl rfl 0 (by decide) (hts (.fieldLink RX5 7 "HallSightsModel" "z" "[I") (List.mem_of_getElem? (i := 1) rfl)) (fun _ h9 => h9) rfl dX5_leastFor_57 ?_
    refine lv_iconst (v := nI 1) hx hb dX5_leastFor_60 (by decide) ?_
    refine kx_iald hx hb hK hP 1 0 rfl rfl (by omega) (by decide) dX5_leastFor_61 ?_
    refine lv_isub hx hb dX5_leastFor_62 ?_
    refine lv_aload_n hx hb dX5_leastFor_63 rfl (lv_at hl 1 rfl) ?_
    refine va_get (D := D) (ci := 5) (v := .ref (a 1)) (C := RX5) (T := TX5) (N := 12) hx hb hts iX5_leastFor_5 hown hK hP 0 rfl rfl 0 (by decide) (hts (.fieldLink RX5 7 "HallSightsModel" "z" "[I") (List.mem_of_getElem? (i := 1) rfl)) (fun _ h9 => h9) rfl dX5_leastFor_64 ?_
    refine lv_iconst (v := nI 0) hx hb dX5_leastFor_67 (by decide) ?_
    refine kx_iald hx hb hK hP 1 0 rfl rfl (by omega) (by decide) dX5_leastFor_68 ?_
    refine lv_iadd hx hb dX5_leastFor_69 ?_
    refine lv_istore (lv' := [(5, .int (((upw (((((z (5 + 4 * ia + 1)) + (z 1)) + (z 2)) - (z 0)) * (z (5 + 4 * r0))) (z (5 + 4 * ia))) - (z 1)) + (z 0))), (4, .int ((((z (5 + 4 * ia + 1)) + (z 1)) + (z 2)) - (z 0))), (0, .ref (a 0)), (1, .int (nI r0)), (2, .int (itN ia (lfS z r0) (nI 0))), (3, .int (nI ia))]) hx hb dX5_leastFor_70 hl (by decide) rfl (fun ls hl => ?_)
    refine lv_iload hx hb dX5_leastFor_72 (lv_at hl 0 rfl) ?_
    refine lv_iload_n hx hb dX5_leastFor_74 rfl (lv_at hl 4 rfl) ?_
    refine lv_icmp_le (tgt := 83) hx hb dX5_leastFor_75 (by decide) (fun c_75_6 => ?_) (fun c_75_7 => ?_)
    · have c_75_6 : ((((upw (((((z (5 + 4 * ia + 1)) + (z 1)) + (z 2)) - (z 0)) * (z (5 + 4 * r0))) (z (5 + 4 * ia))) - (z 1)) + (z 0)) : Int32) ≤ (itN ia (lfS z r0) (nI 0)) := c_75_6
      refine lv_iload_n hx hb dX5_leastFor_83 rfl (lv_at hl 4 rfl) ?_
      refine lv_istore_n (lv' := [(2, .int (itN ia (lfS z r0) (nI 0))), (5, .int (((upw (((((z (5 + 4 * ia + 1)) + (z 1)) + (z 2)) - (z 0)) * (z (5 + 4 * r0))) (z (5 + 4 * ia))) - (z 1)) + (z 0))), (4, .int ((((z (5 + 4 * ia + 1)) + (z 1)) + (z 2)) - (z 0))), (0, .ref (a 0)), (1, .int (nI r0)), (3, .int (nI ia))]) hx hb dX5_leastFor_84 rfl hl (by decide) rfl (fun ls hl => ?_)
      refine lv_iinc (v := nI (ia + 1)) (lv' := [(3, .int (nI (ia + 1))), (2, .int (itN ia (lfS z r0) (nI 0))), (5, .int (((upw (((((z (5 + 4 * ia + 1)) + (z 1)) + (z 2)) - (z 0)) * (z (5 + 4 * r0))) (z (5 + 4 * ia))) - (z 1)) + (z 0))), (4, .int ((((z (5 + 4 * ia + 1)) + (z 1)) + (z 2)) - (z 0))), (0, .ref (a 0)), (1, .int (nI r0))]) hx hb dX5_leastFor_85 hl (k := 5) rfl (kx_inc 1) (by decide) rfl (fun ls hl => ?_)
      refine lv_goto (tgt := 4) hx hb dX5_leastFor_88 (by decide) ?_
      have e4_8 : (itN ia (lfS z r0) (nI 0) : Int32) = (itN (ia + 1) (lfS z r0) (nI 0)) := by first | rfl | omega | (simp [leastForI, lfS, hgtFor, headP, itN_s, Int32.not_lt, Int32.not_le, c_6_3, Nat.not_le.mpr c_6_3, c_75_6, Int32.not_lt.mpr c_75_6]; done) | (simp [leastForI, lfS, hgtFor, headP, itN_s, Int32.not_lt, Int32.not_le, c_6_3, Nat.not_le.mpr c_6_3, c_75_6, Int32.not_lt.mpr c_75_6]; omega) | (revert c_6_3 c_75_6; simp +contextual [leastForI, lfS, hgtFor, headP, itN_s, Int32.not_lt, Int32.not_le]; done) | (revert c_6_3 c_75_6; simp +contextual [leastForI, lfS, hgtFor, headP, itN_s, Int32.not_lt, Int32.not_le]; omega)
      have e4_9 : (ia + 1 : Nat) = ((ia + 1)) := by first | rfl | omega | (simp [leastForI, lfS, hgtFor, headP, itN_s, Int32.not_lt, Int32.not_le, c_6_3, Nat.not_le.mpr c_6_3, c_75_6, Int32.not_lt.mpr c_75_6]; done) | (simp [leastForI, lfS, hgtFor, headP, itN_s, Int32.not_lt, Int32.not_le, c_6_3, Nat.not_le.mpr c_6_3, c_75_6, Int32.not_lt.mpr c_75_6]; omega) | (revert c_6_3 c_75_6; simp +contextual [leastForI, lfS, hgtFor, headP, itN_s, Int32.not_lt, Int32.not_le]; done) | (revert c_6_3 c_75_6; simp +contextual [leastForI, lfS, hgtFor, headP, itN_s, Int32.not_lt, Int32.not_le]; omega)
      have hl4_10 : lv_has ls 6 [(0, .ref (a 0)), (1, .int (nI r0)), (2, .int (itN (ia + 1) (lfS z r0) (nI 0))), (3, .int (nI (ia + 1)))] := lv_eqv (l1 := [(0, .ref (a 0)), (1, .int (nI r0)), (2, .int (itN ia (lfS z r0) (nI 0))), (3, .int (nI (ia + 1)))]) (lv_sub hl [4, 5, 1, 0] rfl) (lv_ce rfl (lv_ce rfl (lv_ce (congrArg Value.int e4_8) (lv_ce (congrArg (fun x => Value.int (nI x)) e4_9) rfl))))
      exact ih4 _ (by omega) (hl4_10)
    · have c_75_7 : ¬ ((((upw (((((z (5 + 4 * ia + 1)) + (z 1)) + (z 2)) - (z 0)) * (z (5 + 4 * r0))) (z (5 + 4 * ia))) - (z 1)) + (z 0)) : Int32) ≤ (itN ia (lfS z r0) (nI 0)) := c_75_7
      refine lv_iload hx hb dX5_leastFor_78 (lv_at hl 0 rfl) ?_
      refine lv_goto (tgt := 84) hx hb dX5_leastFor_80 (by decide) ?_
      refine lv_istore_n (lv' := [(2, .int (((upw (((((z (5 + 4 * ia + 1)) + (z 1)) + (z 2)) - (z 0)) * (z (5 + 4 * r0))) (z (5 + 4 * ia))) - (z 1)) + (z 0))), (5, .int (((upw (((((z (5 + 4 * ia + 1)) + (z 1)) + (z 2)) - (z 0)) * (z (5 + 4 * r0))) (z (5 + 4 * ia))) - (z 1)) + (z 0))), (4, .int ((((z (5 + 4 * ia + 1)) + (z 1)) + (z 2)) - (z 0))), (0, .ref (a 0)), (1, .int (nI r0)), (3, .int (nI ia))]) hx hb dX5_leastFor_84 rfl hl (by decide) rfl (fun ls hl => ?_)
      refine lv_iinc (v := nI (ia + 1)) (lv' := [(3, .int (nI (ia + 1))), (2, .int (((upw (((((z (5 + 4 * ia + 1)) + (z 1)) + (z 2)) - (z 0)) * (z (5 + 4 * r0))) (z (5 + 4 * ia))) - (z 1)) + (z 0))), (5, .int (((upw (((((z (5 + 4 * ia + 1)) + (z 1)) + (z 2)) - (z 0)) * (z (5 + 4 * r0))) (z (5 + 4 * ia))) - (z 1)) + (z 0))), (4, .int ((((z (5 + 4 * ia + 1)) + (z 1)) + (z 2)) - (z 0))), (0, .ref (a 0)), (1, .int (nI r0))]) hx hb dX5_leastFor_85 hl (k := 5) rfl (kx_inc 1) (by decide) rfl (fun ls hl => ?_)
      refine lv_goto (tgt := 4) hx hb dX5_leastFor_88 (by decide) ?_
      have e4_11 : ((((upw (((((z (5 + 4 * ia + 1)) + (z 1)) + (z 2)) - (z 0)) * (z (5 + 4 * r0))) (z (5 + 4 * ia))) - (z 1)) + (z 0)) : Int32) = (itN (ia + 1) (lfS z r0) (nI 0)) := by first | rfl | omega | (simp [leastForI, lfS, hgtFor, headP, itN_s, Int32.not_lt, Int32.not_le, c_6_3, Nat.not_le.mpr c_6_3, c_75_7, Int32.not_le.mp c_75_7]; done) | (simp [leastForI, lfS, hgtFor, headP, itN_s, Int32.not_lt, Int32.not_le, c_6_3, Nat.not_le.mpr c_6_3, c_75_7, Int32.not_le.mp c_75_7]; omega) | (revert c_6_3 c_75_7; simp +contextual [leastForI, lfS, hgtFor, headP, itN_s, Int32.not_lt, Int32.not_le]; done) | (revert c_6_3 c_75_7; simp +contextual [leastForI, lfS, hgtFor, headP, itN_s, Int32.not_lt, Int32.not_le]; omega)
      have e4_12 : (ia + 1 : Nat) = ((ia + 1)) := by first | rfl | omega | (simp [leastForI, lfS, hgtFor, headP, itN_s, Int32.not_lt, Int32.not_le, c_6_3, Nat.not_le.mpr c_6_3, c_75_7, Int32.not_le.mp c_75_7]; done) | (simp [leastForI, lfS, hgtFor, headP, itN_s, Int32.not_lt, Int32.not_le, c_6_3, Nat.not_le.mpr c_6_3, c_75_7, Int32.not_le.mp c_75_7]; omega) | (revert c_6_3 c_75_7; simp +contextual [leastForI, lfS, hgtFor, headP, itN_s, Int32.not_lt, Int32.not_le]; done) | (revert c_6_3 c_75_7; simp +contextual [leastForI, lfS, hgtFor, headP, itN_s, Int32.not_lt, Int32.not_le]; omega)
      have hl4_13 : lv_has ls 6 [(0, .ref (a 0)), (1, .int (nI r0)), (2, .int (itN (ia + 1) (lfS z r0) (nI 0))), (3, .int (nI (ia + 1)))] := lv_eqv (l1 := [(0, .ref (a 0)), (1, .int (nI r0)), (2, .int (((upw (((((z (5 + 4 * ia + 1)) + (z 1)) + (z 2)) - (z 0)) * (z (5 + 4 * r0))) (z (5 + 4 * ia))) - (z 1)) + (z 0))), (3, .int (nI (ia + 1)))]) (lv_sub hl [4, 5, 1, 0] rfl) (lv_ce rfl (lv_ce rfl (lv_ce (congrArg Value.int e4_11) (lv_ce (congrArg (fun x => Value.int (nI x)) e4_12) rfl))))
      exact ih4 _ (by omega) (hl4_13)
set_option maxHeartbeats 4000000 in
set_option maxRecDepth 100000 in
theorem c_X5_seeingIn (l : Launch) (D : va_G) (cI cC cH cL : ClassId) (a : Nat → Nat) (z zh tx pa wy : ZZ) (st le th rd nu pt : Int32) (za : Int64) (r0 : Nat) (t0 : Bool) (hw : WF z) (hr : r0 < nR z) : Met l yX5_seeingIn wsX5_seeingIn ({ frames := 6, cells := 0, slots := 0, locals := 140 }) (kp [.ref (a 0), .int (nI r0), .int (bI t0)] D (MW a cI z st zh le tx th pa rd nu pt wy za) (kT cI cC cH cL)) (kr (.returned (some (.int (nI (seeIn z r0 t0)))))) 0 0 (fun _ => False) := by
  refine Met.ofW (cc := cX5_seeingIn) (maxL := 5) (ret := (some .int)) (by decide) rfl ?_
  intro p e s m args below meth c s₁ B hml hv
  obtain ⟨rfl, hP, hK⟩ := hv
  have hx := B.exec
  have hb := B.bytes
  have hrt := B.returns
  have hts := atoms_spec (ws := wsX5_seeingIn) B.pre
  have hown : s.vm.findClass RX5 = some m.cls := findClass_of_methodNamed B.named
  have hlocks := B.notSynchronized
  have hl := lv_entry ([.ref (a 0), .int (nI r0), .int (bI t0)]) (n := 5) (Nat.le_of_ble_eq_true rfl)
  rw [lg_entry_eq]
  generalize (lg_sl ([.ref (a 0), .int (nI r0), .int (bI t0)]) ++ List.replicate (5 - (lg_sl ([.ref (a 0), .int (nI r0), .int (bI t0)])).length) Slot.unset).toArray = ls at hl ⊢
  have hl : lv_has ls 5 [(0, .ref (a 0)), (1, .int (nI r0)), (2, .int (bI t0))] := hl
  have hR10 := wf_R10 hw
  have hC4 := wf_C4 hw
  have hS := wf_S12 hw hr
  refine lv_iconst (v := nI 0) hx hb dX5_seeingIn_0 (by decide) ?_
  refine lv_istore_n (lv' := [(3, .int (nI 0)), (0, .ref (a 0)), (1, .int (nI r0)), (2, .int (bI t0))]) hx hb dX5_seeingIn_1 rfl hl (by decide) rfl (fun ls hl => ?_)
  refine lv_iconst (v := nI 0) hx hb dX5_seeingIn_2 (by decide) ?_
  refine lv_istore (lv' := [(4, .int (nI 0)), (3, .int (nI 0)), (0, .ref (a 0)), (1, .int (nI r0)), (2, .int (bI t0))]) hx hb dX5_seeingIn_3 hl (by decide) rfl (fun ls hl => ?_)
  have e5_0 : (0 : Nat) = (sumN 0 (fun w => b2 ((!t0 || tk z r0 w) && seesB z r0 w))) := by first | rfl | omega | (simp [seeIn, sumN_s, b2, Int32.not_lt, Int32.not_le]; done) | (simp [seeIn, sumN_s, b2, Int32.not_lt, Int32.not_le]; omega)
  have hl5_1 : lv_has ls 5 [(0, .ref (a 0)), (1, .int (nI r0)), (2, .int (bI t0)), (3, .int (nI (sumN 0 (fun w => b2 ((!t0 || tk z r0 w) && seesB z r0 w))))), (4, .int (nI 0))] := lv_eqv (l1 := [(0, .ref (a 0)), (1, .int (nI r0)), (2, .int (bI t0)), (3, .int (nI 0)), (4, .int (nI 0))]) (lv_sub hl [2, 3, 4, 1, 0] rfl) (lv_ce rfl (lv_ce rfl (lv_ce rfl (lv_ce (congrArg (fun x => Value.int (nI x)) e5_0) (lv_ce rfl rfl)))))
  refine kx_up (fun k ls => lv_has ls 5 [(0, .ref (a 0)), (1, .int (nI r0)), (2, .int (bI t0)), (3, .int (nI (sumN k (fun w => b2 ((!t0 || tk z r0 w) && seesB z r0 w))))), (4, .int (nI k))]) (0) (nS z r0) (by omega) ls (hl5_1) ?_
  intro iw ls hiwl hiwh hp ih5
  have hl := hp
  refine lv_iload hx hb dX5_seeingIn_5 (lv_at hl 4 rfl) ?_
  refine lv_aload_n hx hb dX5_seeingIn_7 rfl (lv_at hl 0 rfl) ?_
  refine lv_iload_n hx hb dX5_seeingIn_8 rfl (lv_at hl 1 rfl) ?_
  refine lv_iconst (v := nI 2) hx hb dX5_seeingIn_9 (by decide) ?_
  refine kr_V (As := [.int (nI r0), .int (nI 2)]) (rest := [.int (nI iw)]) (C := RX5) (own := RX5) ⟨hx, hb, hml, hown, hts⟩ (c_X5_of l D cI cC cH cL a z zh tx pa wy st le th rd nu pt za r0 2 (by first | assumption | omega)) (cwV 2 hts gX5_seeingIn_X5_of rfl rfl rfl k_X5_of ⟨Nat.le_of_ble_eq_true rfl, Nat.le_of_ble_eq_true rfl⟩) hP hK (va_recv (q := (RX5, TX5, 12)) hK hP (ci := 5) (q0 := 0) rfl rfl) rfl hl.1 rfl (Nat.le_of_ble_eq_true rfl) dX5_seeingIn_10 ⟨Nat.le_of_ble_eq_true rfl, Nat.le_of_ble_eq_true rfl⟩ ?_
  refine kx_top (wf_S hw (show (r0) < nR z by omega)) ?_
  have hS12_2 := wf_S12 hw (show (r0) < nR z by omega)
  refine kx_icmp_ge (tgt := 54) hx hb (by omega) (by omega) dX5_seeingIn_13 (by decide) (fun c_13_3 => ?_) (fun c_13_4 => ?_)
  · have hq5 : nS z r0 = iw := by omega
    subst hq5
    refine lv_iload_n hx hb dX5_seeingIn_54 rfl (lv_at hl 3 rfl) ?_
    have e_6 : (sumN (nS z r0) (fun w => b2 ((!t0 || tk z r0 w) && seesB z r0 w)) : Nat) = (seeIn z r0 t0) := by first | rfl | omega | (simp [seeIn, sumN_s, b2, Int32.not_lt, Int32.not_le, c_13_3, Nat.not_lt.mpr c_13_3]; done) | (simp [seeIn, sumN_s, b2, Int32.not_lt, Int32.not_le, c_13_3, Nat.not_lt.mpr c_13_3]; omega) | (revert c_13_3; simp +contextual [seeIn, sumN_s, b2, Int32.not_lt, Int32.not_le]; done) | (revert c_13_3; simp +contextual [seeIn, sumN_s, b2, Int32.not_lt, Int32.not_le]; omega)
    exact kr_iret hx hb hrt hlocks (congrArg nI e_6) rfl dX5_seeingIn_55
  · refine lv_iload_n hx hb dX5_seeingIn_16 rfl (lv_at hl 3 rfl) ?_
    refine lv_iload_n hx hb dX5_seeingIn_17 rfl (lv_at hl 2 rfl) ?_
    refine kx_if_eqb (tgt := 31) hx hb dX5_seeingIn_18 (by decide) (fun c_18_7 => ?_) (fun c_18_8 => ?_)
    · refine lv_aload_n hx hb dX5_seeingIn_31 rfl (lv_at hl 0 rfl) ?_
      refine lv_iload_n hx hb dX5_seeingIn_32 rfl (lv_at hl 1 rfl) ?_
      refine lv_iload hx hb dX5_seeingIn_33 (lv_at hl 4 rfl) ?_
      refine kr_V (As := [.int (nI r0), .int (nI iw)]) (rest := [.int (nI (sumN iw (fun w => b2 ((!t0 || tk z r0 w) && seesB z r0 w))))]) (C := RX5) (own := RX5) ⟨hx, hb, hml, hown, hts⟩ (c_X5_sees l D cI cC cH cL a z zh tx pa wy st le th rd nu pt za r0 iw (by first | assumption | omega) (by first | assumption | omega)) (cwV 2 hts gX5_seeingIn_X5_sees rfl rfl rfl k_X5_sees ⟨Nat.le_of_ble_eq_true rfl, Nat.le_of_ble_eq_true rfl⟩) hP hK (va_recv (q := (RX5, TX5, 12)) hK hP (ci := 5) (q0 := 0) rfl rfl) rfl hl.1 rfl (Nat.le_of_ble_eq_true rfl) dX5_seeingIn_35 ⟨Nat.le_of_ble_eq_true rfl, Nat.le_of_ble_eq_true rfl⟩ ?_
      refine kx_if_eqb (tgt := 45) hx hb dX5_seeingIn_38 (by decide) (fun c_38_9 => ?_) (fun c_38_10 => ?_)
      · refine lv_iconst (v := nI 0) hx hb dX5_seeingIn_45 (by decide) ?_
        refine kx_iadd hx hb dX5_seeingIn_46 ?_
        refine lv_istore_n (lv' := [(3, .int (nI ((sumN iw (fun w => b2 ((!t0 || tk z r0 w) && seesB z r0 w))) + 0))), (0, .ref (a 0)), (1, .int (nI r0)), (2, .int (bI t0)), (4, .int (nI iw))]) hx hb dX5_seeingIn_47 rfl hl (by decide) rfl (fun ls hl => ?_)
        refine lv_iinc (v := nI (iw + 1)) (lv' := [(4, .int (nI (iw + 1))), (3, .int (nI ((sumN iw (fun w => b2 ((!t0 || tk z r0 w) && seesB z r0 w))) + 0))), (0, .ref (a 0)), (1, .int (nI r0)), (2, .int (bI t0))]) hx hb dX5_seeingIn_48 hl (k := 4) rfl (kx_inc 1) (by decide) rfl (fun ls hl => ?_)
        refine lv_goto (tgt := 5) hx hb dX5_seeingIn_51 (by decide) ?_
        have e5_11 : ((sumN iw (fun w => b2 ((!t0 || tk z r0 w) && seesB z r0 w))) + 0 : Nat) = (sumN (iw + 1) (fun w => b2 ((!t0 || tk z r0 w) && seesB z r0 w))) := by first | rfl | omega | (simp [seeIn, sumN_s, b2, Int32.not_lt, Int32.not_le, c_13_4, Nat.not_le.mpr c_13_4, c_18_7, c_38_9]; done) | (simp [seeIn, sumN_s, b2, Int32.not_lt, Int32.not_le, c_13_4, Nat.not_le.mpr c_13_4, c_18_7, c_38_9]; omega) | (revert c_13_4 c_18_7 c_38_9; simp +contextual [seeIn, sumN_s, b2, Int32.not_lt, Int32.not_le]; done) | (revert c_13_4 c_18_7 c_38_9; simp +contextual [seeIn, sumN_s, b2, Int32.not_lt, Int32.not_le]; omega)
        have e5_12 : (iw + 1 : Nat) = ((iw + 1)) := by first | rfl | omega | (simp [seeIn, sumN_s, b2, Int32.not_lt, Int32.not_le, c_13_4, Nat.not_le.mpr c_13_4, c_18_7, c_38_9]; done) | (simp [seeIn, sumN_s, b2, Int32.not_lt, Int32.not_le, c_13_4, Nat.not_le.mpr c_13_4, c_18_7, c_38_9]; omega) | (revert c_13_4 c_18_7 c_38_9; simp +contextual [seeIn, sumN_s, b2, Int32.not_lt, Int32.not_le]; done) | (revert c_13_4 c_18_7 c_38_9; simp +contextual [seeIn, sumN_s, b2, Int32.not_lt, Int32.not_le]; omega)
        have hl5_13 : lv_has ls 5 [(0, .ref (a 0)), (1, .int (nI r0)), (2, .int (bI t0)), (3, .int (nI (sumN (iw + 1) (fun w => b2 ((!t0 || tk z r0 w) && seesB z r0 w))))), (4, .int (nI (iw + 1)))] := lv_eqv (l1 := [(0, .ref (a 0)), (1, .int (nI r0)), (2, .int (bI t0)), (3, .int (nI ((sumN iw (fun w => b2 ((!t0 || tk z r0 w) && seesB z r0 w))) + 0))), (4, .int (nI (iw + 1)))]) (lv_sub hl [2, 3, 4, 1, 0] rfl) (lv_ce rfl (lv_ce rfl (lv_ce rfl (lv_ce (congrArg (fun x => Value.int (nI x)) e5_11) (lv_ce (congrArg (fun x => Value.int (nI x)) e5_12) rfl)))))
        exact ih5 _ (by omega) (hl5_13)
      · refine lv_iconst (v := nI 1) hx hb dX5_seeingIn_41 (by decide) ?_
        refine lv_goto (tgt := 46) hx hb dX5_seeingIn_42 (by decide) ?_
        refine kx_iadd hx hb dX5_seeingIn_46 ?_
        refine lv_istore_n (lv' := [(3, .int (nI ((sumN iw (fun w => b2 ((!t0 || tk z r0 w) && seesB z r0 w))) + 1))), (0, .ref (a 0)), (1, .int (nI r0)), (2, .int (bI t0)), (4, .int (nI iw))]) hx hb dX5_seeingIn_47 rfl hl (by decide) rfl (fun ls hl => ?_)
        refine lv_iinc (v := nI (iw + 1)) (lv' := [(4, .int (nI (iw + 1))), (3, .int (nI ((sumN iw (fun w => b2 ((!t0 || tk z r0 w) && seesB z r0 w))) + 1))), (0, .ref (a 0)), (1, .int (nI r0)), (2, .int (bI t0))]) hx hb dX5_seeingIn_48 hl (k := 4) rfl (kx_inc 1) (by decide) rfl (fun ls hl => ?_)
        refine lv_goto (tgt := 5) hx hb dX5_seeingIn_51 (by decide) ?_
        have e5_14 : ((sumN iw (fun w => b2 ((!t0 || tk z r0 w) && seesB z r0 w))) + 1 : Nat) = (sumN (iw + 1) (fun w => b2 ((!t0 || tk z r0 w) && seesB z r0 w))) := by first | rfl | omega | (simp [seeIn, sumN_s, b2, Int32.not_lt, Int32.not_le, c_13_4, Nat.not_le.mpr c_13_4, c_18_7, c_38_10]; done) | (simp [seeIn, sumN_s, b2, Int32.not_lt, Int32.not_le, c_13_4, Nat.not_le.mpr c_13_4, c_18_7, c_38_10]; omega) | (revert c_13_4 c_18_7 c_38_10; simp +contextual [seeIn, sumN_s, b2, Int32.not_lt, Int32.not_le]; done) | (revert c_13_4 c_18_7 c_38_10; simp +contextual [seeIn, sumN_s, b2, Int32.not_lt, Int32.not_le]; omega)
        have e5_15 : (iw + 1 : Nat) = ((iw + 1)) := by first | rfl | omega | (simp [seeIn, sumN_s, b2, Int32.not_lt, Int32.not_le, c_13_4, Nat.not_le.mpr c_13_4, c_18_7, c_38_10]; done) | (simp [seeIn, sumN_s, b2, Int32.not_lt, Int32.not_le, c_13_4, Nat.not_le.mpr c_13_4, c_18_7, c_38_10]; omega) | (revert c_13_4 c_18_7 c_38_10; simp +contextual [seeIn, sumN_s, b2, Int32.not_lt, Int32.not_le]; done) | (revert c_13_4 c_18_7 c_38_10; simp +contextual [seeIn, sumN_s, b2, Int32.not_lt, Int32.not_le]; omega)
        have hl5_16 : lv_has ls 5 [(0, .ref (a 0)), (1, .int (nI r0)), (2, .int (bI t0)), (3, .int (nI (sumN (iw + 1) (fun w => b2 ((!t0 || tk z r0 w) && seesB z r0 w))))), (4, .int (nI (iw + 1)))] := lv_eqv (l1 := [(0, .ref (a 0)), (1, .int (nI r0)), (2, .int (bI t0)), (3, .int (nI ((sumN iw (fun w => b2 ((!t0 || tk z r0 w) && seesB z r0 w))) + 1))), (4, .int (nI (iw + 1)))]) (lv_sub hl [2, 3, 4, 1, 0] rfl) (lv_ce rfl (lv_ce rfl (lv_ce rfl (lv_ce (congrArg (fun x => Value.int (nI x)) e5_14) (lv_ce (congrArg (fun x => Value.int (nI x)) e5_15) rfl)))))
        exact ih5 _ (by omega) (hl5_16)
    · refine lv_aload_n hx hb dX5_seeingIn_21 rfl (lv_at hl 0 rfl) ?_
      refine lv_iload_n hx hb dX5_seeingIn_22 rfl (lv_at hl 1 rfl) ?_
      refine lv_iload hx hb dX5_seeingIn_23 (lv_at hl 4 rfl) ?_
      refine kr_V (As := [.int (nI r0), .int (nI iw)]) (rest := [.int (nI (sumN iw (fun w => b2 ((!t0 || tk z r0 w) && seesB z r0 w))))]) (C := RX5) (own := RX5) ⟨hx, hb, hml, hown, hts⟩ (c_X5_isTaken l D cI cC cH cL a z zh tx pa wy st le th rd nu pt za r0 iw (by first | assumption | omega)) (cwV 2 hts gX5_seeingIn_X5_isTaken rfl rfl rfl k_X5_isTaken ⟨Nat.le_of_ble_eq_true rfl, Nat.le_of_ble_eq_true rfl⟩) hP hK (va_recv (q := (RX5, TX5, 12)) hK hP (ci := 5) (q0 := 0) rfl rfl) rfl hl.1 rfl (Nat.le_of_ble_eq_true rfl) dX5_seeingIn_25 ⟨Nat.le_of_ble_eq_true rfl, Nat.le_of_ble_eq_true rfl⟩ ?_
      refine kx_if_eqb (tgt := 45) hx hb dX5_seeingIn_28 (by decide) (fun c_28_17 => ?_) (fun c_28_18 => ?_)
      · refine lv_iconst (v := nI 0) hx hb dX5_seeingIn_45 (by decide) ?_
        refine kx_iadd hx hb dX5_seeingIn_46 ?_
        refine lv_istore_n (lv' := [(3, .int (nI ((sumN iw (fun w => b2 ((!t0 || tk z r0 w) && seesB z r0 w))) + 0))), (0, .ref (a 0)), (1, .int (nI r0)), (2, .int (bI t0)), (4, .int (nI iw))]) hx hb dX5_seeingIn_47 rfl hl (by decide) rfl (fun ls hl => ?_)
        refine lv_iinc (v := nI (iw + 1)) (lv' := [(4, .int (nI (iw + 1))), (3, .int (nI ((sumN iw (fun w => b2 ((!t0 || tk z r0 w) && seesB z r0 w))) + 0))), (0, .ref (a 0)), (1, .int (nI r0)), (2, .int (bI t0))]) hx hb dX5_seeingIn_48 hl (k := 4) rfl (kx_inc 1) (by decide) rfl (fun ls hl => ?_)
        refine lv_goto (tgt := 5) hx hb dX5_seeingIn_51 (by decide) ?_
        have e5_19 : ((sumN iw (fun w => b2 ((!t0 || tk z r0 w) && seesB z r0 w))) + 0 : Nat) = (sumN (iw + 1) (fun w => b2 ((!t0 || tk z r0 w) && seesB z r0 w))) := by first | rfl | omega | (simp [seeIn, sumN_s, b2, Int32.not_lt, Int32.not_le, c_13_4, Nat.not_le.mpr c_13_4, c_18_8, c_28_17]; done) | (simp [seeIn, sumN_s, b2, Int32.not_lt, Int32.not_le, c_13_4, Nat.not_le.mpr c_13_4, c_18_8, c_28_17]; omega) | (revert c_13_4 c_18_8 c_28_17; simp +contextual [seeIn, sumN_s, b2, Int32.not_lt, Int32.not_le]; done) | (revert c_13_4 c_18_8 c_28_17; simp +contextual [seeIn, sumN_s, b2, Int32.not_lt, Int32.not_le]; omega)
        have e5_20 : (iw + 1 : Nat) = ((iw + 1)) := by first | rfl | omega | (simp [seeIn, sumN_s, b2, Int32.not_lt, Int32.not_le, c_13_4, Nat.not_le.mpr c_13_4, c_18_8, c_28_17]; done) | (simp [seeIn, sumN_s, b2, Int32.not_lt, Int32.not_le, c_13_4, Nat.not_le.mpr c_13_4, c_18_8, c_28_17]; omega) | (revert c_13_4 c_18_8 c_28_17; simp +contextual [seeIn, sumN_s, b2, Int32.not_lt, Int32.not_le]; done) | (revert c_13_4 c_18_8 c_28_17; simp +contextual [seeIn, sumN_s, b2, Int32.not_lt, Int32.not_le]; omega)
        have hl5_21 : lv_has ls 5 [(0, .ref (a 0)), (1, .int (nI r0)), (2, .int (bI t0)), (3, .int (nI (sumN (iw + 1) (fun w => b2 ((!t0 || tk z r0 w) && seesB z r0 w))))), (4, .int (nI (iw + 1)))] := lv_eqv (l1 := [(0, .ref (a 0)), (1, .int (nI r0)), (2, .int (bI t0)), (3, .int (nI ((sumN iw (fun w => b2 ((!t0 || tk z r0 w) && seesB z r0 w))) + 0))), (4, .int (nI (iw + 1)))]) (lv_sub hl [2, 3, 4, 1, 0] rfl) (lv_ce rfl (lv_ce rfl (lv_ce rfl (lv_ce (congrArg (fun x => Value.int (nI x)) e5_19) (lv_ce (congrArg (fun x => Value.int (nI x)) e5_20) rfl)))))
        exact ih5 _ (by omega) (hl5_21)
      · refine lv_aload_n hx hb dX5_seeingIn_31 rfl (lv_at hl 0 rfl) ?_
        refine lv_iload_n hx hb dX5_seeingIn_32 rfl (lv_at hl 1 rfl) ?_
        refine lv_iload hx hb dX5_seeingIn_33 (lv_at hl 4 rfl) ?_
        refine kr_V (As := [.int (nI r0), .int (nI iw)]) (rest := [.int (nI (sumN iw (fun w => b2 ((!t0 || tk z r0 w) && seesB z r0 w))))]) (C := RX5) (own := RX5) ⟨hx, hb, hml, hown, hts⟩ (c_X5_sees l D cI cC cH cL a z zh tx pa wy st le th rd nu pt za r0 iw (by first | assumption | omega) (by first | assumption | omega)) (cwV 2 hts gX5_seeingIn_X5_sees rfl rfl rfl k_X5_sees ⟨Nat.le_of_ble_eq_true rfl, Nat.le_of_ble_eq_true rfl⟩) hP hK (va_recv (q := (RX5, TX5, 12)) hK hP (ci := 5) (q0 := 0) rfl rfl) rfl hl.1 rfl (Nat.le_of_ble_eq_true rfl) dX5_seeingIn_35 ⟨Nat.le_of_ble_eq_true rfl, Nat.le_of_ble_eq_true rfl⟩ ?_
        refine kx_if_eqb (tgt := 45) hx hb dX5_seeingIn_38 (by decide) (fun c_38_22 => ?_) (fun c_38_23 => ?_)
        · refine lv_iconst (v := nI 0) hx hb dX5_seeingIn_45 (by decide) ?_
          refine kx_iadd hx hb dX5_seeingIn_46 ?_
          refine lv_istore_n (lv' := [(3, .int (nI ((sumN iw (fun w => b2 ((!t0 || tk z r0 w) && seesB z r0 w))) + 0))), (0, .ref (a 0)), (1, .int (nI r0)), (2, .int (bI t0)), (4, .int (nI iw))]) hx hb dX5_seeingIn_47 rfl hl (by decide) rfl (fun ls hl => ?_)
          refine lv_iinc (v := nI (iw + 1)) (lv' := [(4, .int (nI (iw + 1))), (3, .int (nI ((sumN iw (fun w => b2 ((!t0 || tk z r0 w) && seesB z r0 w))) + 0))), (0, .ref (a 0)), (1, .int (nI r0)), (2, .int (bI t0))]) hx hb dX5_seeingIn_48 hl (k := 4) rfl (kx_inc 1) (by decide) rfl (fun ls hl => ?_)
          refine lv_goto (tgt := 5) hx hb dX5_seeingIn_51 (by decide) ?_
          have e5_24 : ((sumN iw (fun w => b2 ((!t0 || tk z r0 w) && seesB z r0 w))) + 0 : Nat) = (sumN (iw + 1) (fun w => b2 ((!t0 || tk z r0 w) && seesB z r0 w))) := by first | rfl | omega | (simp [seeIn, sumN_s, b2, Int32.not_lt, Int32.not_le, c_13_4, Nat.not_le.mpr c_13_4, c_18_8, c_28_18, c_38_22]; done) | (simp [seeIn, sumN_s, b2, Int32.not_lt, Int32.not_le, c_13_4, Nat.not_le.mpr c_13_4, c_18_8, c_28_18, c_38_22]; omega) | (revert c_13_4 c_18_8 c_28_18 c_38_22; simp +contextual [seeIn, sumN_s, b2, Int32.not_lt, Int32.not_le]; done) | (revert c_13_4 c_18_8 c_28_18 c_38_22; simp +contextual [seeIn, sumN_s, b2, Int32.not_lt, Int32.not_le]; omega)
          have e5_25 : (iw + 1 : Nat) = ((iw + 1)) := by first | rfl | omega | (simp [seeIn, sumN_s, b2, Int32.not_lt, Int32.not_le, c_13_4, Nat.not_le.mpr c_13_4, c_18_8, c_28_18, c_38_22]; done) | (simp [seeIn, sumN_s, b2, Int32.not_lt, Int32.not_le, c_13_4, Nat.not_le.mpr c_13_4, c_18_8, c_28_18, c_38_22]; omega) | (revert c_13_4 c_18_8 c_28_18 c_38_22; simp +contextual [seeIn, sumN_s, b2, Int32.not_lt, Int32.not_le]; done) | (revert c_13_4 c_18_8 c_28_18 c_38_22; simp +contextual [seeIn, sumN_s, b2, Int32.not_lt, Int32.not_le]; omega)
          have hl5_26 : lv_has ls 5 [(0, .ref (a 0)), (1, .int (nI r0)), (2, .int (bI t0)), (3, .int (nI (sumN (iw + 1) (fun w => b2 ((!t0 || tk z r0 w) && seesB z r0 w))))), (4, .int (nI (iw + 1)))] := lv_eqv (l1 := [(0, .ref (a 0)), (1, .int (nI r0)), (2, .int (bI t0)), (3, .int (nI ((sumN iw (fun w => b2 ((!t0 || tk z r0 w) && seesB z r0 w))) + 0))), (4, .int (nI (iw + 1)))]) (lv_sub hl [2, 3, 4, 1, 0] rfl) (lv_ce rfl (lv_ce rfl (lv_ce rfl (lv_ce (congrArg (fun x => Value.int (nI x)) e5_24) (lv_ce (congrArg (fun x => Value.int (nI x)) e5_25) rfl)))))
          exact ih5 _ (by omega) (hl5_26)
        · refine lv_iconst (v := nI 1) hx hb dX5_seeingIn_41 (by decide) ?_
          refine lv_goto (tgt := 46) hx hb dX5_seeingIn_42 (by decide) ?_
          refine kx_iadd hx hb dX5_seeingIn_46 ?_
          refine lv_istore_n (lv' := [(3, .int (nI ((sumN iw (fun w => b2 ((!t0 || tk z r0 w) && seesB z r0 w))) + 1))), (0, .ref (a 0)), (1, .int (nI r0)), (2, .int (bI t0)), (4, .int (nI iw))]) hx hb dX5_seeingIn_47 rfl hl (by decide) rfl (fun ls hl => ?_)
          refine lv_iinc (v := nI (iw + 1)) (lv' := [(4, .int (nI (iw + 1))), (3, .int (nI ((sumN iw (fun w => b2 ((!t0 || tk z r0 w) && seesB z r0 w))) + 1))), (0, .ref (a 0)), (1, .int (nI r0)), (2, .int (bI t0))]) hx hb dX5_seeingIn_48 hl (k := 4) rfl (kx_inc 1) (by decide) rfl (fun ls hl => ?_)
          refine lv_goto (tgt := 5) hx hb dX5_seeingIn_51 (by decide) ?_
          have e5_27 : ((sumN iw (fun w => b2 ((!t0 || tk z r0 w) && seesB z r0 w))) + 1 : Nat) = (sumN (iw + 1) (fun w => b2 ((!t0 || tk z r0 w) && seesB z r0 w))) := by first | rfl | omega | (simp [seeIn, sumN_s, b2, Int32.not_lt, Int32.not_le, c_13_4, Nat.not_le.mpr c_13_4, c_18_8, c_28_18, c_38_23]; done) | (simp [seeIn, sumN_s, b2, Int32.not_lt, Int32.not_le, c_13_4, Nat.not_le.mpr c_13_4, c_18_8, c_28_18, c_38_23]; omega) | (revert c_13_4 c_18_8 c_28_18 c_38_23; simp +contextual [seeIn, sumN_s, b2, Int32.not_lt, Int32.not_le]; done) | (revert c_13_4 c_18_8 c_28_18 c_38_23; simp +contextual [seeIn, sumN_s, b2, Int32.not_lt, Int32.not_le]; omega)
          have e5_28 : (iw + 1 : Nat) = ((iw + 1)) := by first | rfl | omega | (simp [seeIn, sumN_s, b2, Int32.not_lt, Int32.not_le, c_13_4, Nat.not_le.mpr c_13_4, c_18_8, c_28_18, c_38_23]; done) | (simp [seeIn, sumN_s, b2, Int32.not_lt, Int32.not_le, c_13_4, Nat.not_le.mpr c_13_4, c_18_8, c_28_18, c_38_23]; omega) | (revert c_13_4 c_18_8 c_28_18 c_38_23; simp +contextual [seeIn, sumN_s, b2, Int32.not_lt, Int32.not_le]; done) | (revert c_13_4 c_18_8 c_28_18 c_38_23; simp +contextual [seeIn, sumN_s, b2, Int32.not_lt, Int32.not_le]; omega)
          have hl5_29 : lv_has ls 5 [(0, .ref (a 0)), (1, .int (nI r0)), (2, .int (bI t0)), (3, .int (nI (sumN (iw + 1) (fun w => b2 ((!t0 || tk z r0 w) && seesB z r0 w))))), (4, .int (nI (iw + 1)))] := lv_eqv (l1 := [(0, .ref (a 0)), (1, .int (nI r0)), (2, .int (bI t0)), (3, .int (nI ((sumN iw (fun w => b2 ((!t0 || tk z r0 w) && seesB z r0 w))) + 1))), (4, .int (nI (iw + 1)))]) (lv_sub hl [2, 3, 4, 1, 0] rfl) (lv_ce rfl (lv_ce rfl (lv_ce rfl (lv_ce (congrArg (fun x => Value.int (nI x)) e5_27) (lv_ce (congrArg (fun x => Value.int (nI x)) e5_28) rfl)))))
          exact ih5 _ (by omega) (hl5_29)
set_option maxRecDepth 20000 in
theorem iX5_seeing_5 : ∀ w ∈ wsX50, w ∈ wsX5_seeing := by decide +kernel
set_option maxHeartbeats 4000000 in
set_option maxRecDepth 100000 in
theorem c_X5_seeing (l : Launch) (D : va_G) (cI cC cH cL : ClassId) (a : Nat → Nat) (z zh tx pa wy : ZZ) (st le th rd nu pt : Int32) (za : Int64) (t0 : Bool) (hw : WF z) : Met l yX5_seeing wsX5_seeing ({ frames := 7, cells := 0, slots := 0, locals := 164 }) (kp [.ref (a 0), .int (bI t0)] D (MW a cI z st zh le tx th pa rd nu pt wy za) (kT cI cC cH cL)) (kr (.returned (some (.int (nI (seeing z t0)))))) 0 0 (fun _ => False) := by
  refine Met.ofW (cc := cX5_seeing) (maxL := 4) (ret := (some .int)) (by decide) rfl ?_
  intro p e s m args below meth c s₁ B hml hv
  obtain ⟨rfl, hP, hK⟩ := hv
  have hx := B.exec
  have hb := B.bytes
  have hrt := B.returns
  have hts := atoms_spec (ws := wsX5_seeing) B.pre
  have hown : s.vm.findClass RX5 = some m.cls := findClass_of_methodNamed B.named
  have hlocks := B.notSynchronized
  have hl := lv_entry ([.ref (a 0), .int (bI t0)]) (n := 4) (Nat.le_of_ble_eq_true rfl)
  rw [lg_entry_eq]
  generalize (lg_sl ([.ref (a 0), .int (bI t0)]) ++ List.replicate (4 - (lg_sl ([.ref (a 0), .int (bI t0)])).length) Slot.unset).toArray = ls at hl ⊢
  have hl : lv_has ls 4 [(0, .ref (a 0)), (1, .int (bI t0))] := hl
  have hR10 := wf_R10 hw
  have hC4 := wf_C4 hw
  refine lv_iconst (v := nI 0) hx hb dX5_seeing_0 (by decide) ?_
  refine lv_istore_n (lv' := [(2, .int (nI 0)), (0, .ref (a 0)), (1, .int (bI t0))]) hx hb dX5_seeing_1 rfl hl (by decide) rfl (fun ls hl => ?_)
  refine lv_iconst (v := nI 0) hx hb dX5_seeing_2 (by decide) ?_
  refine lv_istore_n (lv' := [(3, .int (nI 0)), (2, .int (nI 0)), (0, .ref (a 0)), (1, .int (bI t0))]) hx hb dX5_seeing_3 rfl hl (by decide) rfl (fun ls hl => ?_)
  have e4_0 : (0 : Nat) = (sumN 0 (fun r => seeIn z r t0)) := by first | rfl | omega | (simp [seeing, sumN_s, Int32.not_lt, Int32.not_le]; done) | (simp [seeing, sumN_s, Int32.not_lt, Int32.not_le]; omega)
  have hl4_1 : lv_has ls 4 [(0, .ref (a 0)), (1, .int (bI t0)), (2, .int (nI (sumN 0 (fun r => seeIn z r t0)))), (3, .int (nI 0))] := lv_eqv (l1 := [(0, .ref (a 0)), (1, .int (bI t0)), (2, .int (nI 0)), (3, .int (nI 0))]) (lv_sub hl [2, 3, 1, 0] rfl) (lv_ce rfl (lv_ce rfl (lv_ce (congrArg (fun x => Value.int (nI x)) e4_0) (lv_ce rfl rfl))))
  refine kx_up (fun k ls => lv_has ls 4 [(0, .ref (a 0)), (1, .int (bI t0)), (2, .int (nI (sumN k (fun r => seeIn z r t0)))), (3, .int (nI k))]) (0) (nR z) (by omega) ls (hl4_1) ?_
  intro ir ls hirl hirh hp ih4
  have hl := hp
  refine lv_iload_n hx hb dX5_seeing_4 rfl (lv_at hl 3 rfl) ?_
  refine lv_aload_n hx hb dX5_seeing_5 rfl (lv_at hl 0 rfl) ?_
  refine va_get (D := D) (ci := 5) (v := .ref (a 1)) (C := RX5) (T := TX5) (N := 12) hx hb hts iX5_seeing_5 hown hK hP 0 rfl rfl 0 (by decide) (hts (.fieldLink RX5 7 "HallSightsModel" "z" "[I") (List.mem_of_getElem? (i := 1) rfl)) (fun _ h9 => h9) rfl dX5_seeing_6 ?_
  refine lv_iconst (v := nI 3) hx hb dX5_seeing_9 (by decide) ?_
  refine kx_iald hx hb hK hP 1 0 rfl rfl (by omega) (by decide) dX5_seeing_10 ?_
  refine kx_top (wf_R hw) ?_
  refine kx_icmp_ge (tgt := 29) hx hb (by omega) (by omega) dX5_seeing_11 (by decide) (fun c_11_2 => ?_) (fun c_11_3 => ?_)
  · have hq4 : nR z = ir := by omega
    subst hq4
    refine lv_iload_n hx hb dX5_seeing_29 rfl (lv_at hl 2 rfl) ?_
    have e_5 : (sumN (nR z) (fun r => seeIn z r t0) : Nat) = (seeing z t0) := by first | rfl | omega | (simp [seeing, sumN_s, Int32.not_lt, Int32.not_le, c_11_2, Nat.not_lt.mpr c_11_2]; done) | (simp [seeing, sumN_s, Int32.not_lt, Int32.not_le, c_11_2, Nat.not_lt.mpr c_11_2]; omega) | (revert c_11_2; simp +contextual [seeing, sumN_s, Int32.not_lt, Int32.not_le]; done) | (revert c_11_2; simp +contextual [seeing, sumN_s, Int32.not_lt, Int32.not_le]; omega)
    exact kr_iret hx hb hrt hlocks (congrArg nI e_5) rfl dX5_seeing_30
  · refine lv_iload_n hx hb dX5_seeing_14 rfl (lv_at hl 2 rfl) ?_
    refine lv_aload_n hx hb dX5_seeing_15 rfl (lv_at hl 0 rfl) ?_
    refine lv_iload_n hx hb dX5_seeing_16 rfl (lv_at hl 3 rfl) ?_
    refine lv_iload_n hx hb dX5_seeing_17 rfl (lv_at hl 1 rfl) ?_
    refine kr_V (As := [.int (nI ir), .int (bI t0)]) (rest := [.int (nI (sumN ir (fun r => seeIn z r t0)))]) (C := RX5) (own := RX5) ⟨hx, hb, hml, hown, hts⟩ (c_X5_seeingIn l D cI cC cH cL a z zh tx pa wy st le th rd nu pt za ir t0 (by first | assumption | omega) (by first | assumption | omega)) (cwV 2 hts gX5_seeing_X5_seeingIn rfl rfl rfl k_X5_seeingIn ⟨Nat.le_of_ble_eq_true rfl, Nat.le_of_ble_eq_true rfl⟩) hP hK (va_recv (q := (RX5, TX5, 12)) hK hP (ci := 5) (q0 := 0) rfl rfl) rfl hl.1 rfl (Nat.le_of_ble_eq_true rfl) dX5_seeing_18 ⟨Nat.le_of_ble_eq_true rfl, Nat.le_of_ble_eq_true rfl⟩ ?_
    refine kx_iadd hx hb dX5_seeing_21 ?_
    refine lv_istore_n (lv' := [(2, .int (nI ((sumN ir (fun r => seeIn z r t0)) + (seeIn z ir t0)))), (0, .ref (a 0)), (1, .int (bI t0)), (3, .int (nI ir))]) hx hb dX5_seeing_22 rfl hl (by decide) rfl (fun ls hl => ?_)
    refine lv_iinc (v := nI (ir + 1)) (lv' := [(3, .int (nI (ir + 1))), (2, .int (nI ((sumN ir (fun r => seeIn z r t0)) + (seeIn z ir t0)))), (0, .ref (a 0)), (1, .int (bI t0))]) hx hb dX5_seeing_23 hl (k := 3) rfl (kx_inc 1) (by decide) rfl (fun ls hl => ?_)
    refine lv_goto (tgt := 4) hx hb dX5_seeing_26 (by decide) ?_
    have e4_6 : ((sumN ir (fun r => seeIn z r t0)) + (seeIn z ir t0) : Nat) = (sumN (ir + 1) (fun r => seeIn z r t0)) := by first | rfl | omega | (simp [seeing, sumN_s, Int32.not_lt, Int32.not_le, c_11_3, Nat.not_le.mpr c_11_3]; done) | (simp [seeing, sumN_s, Int32.not_lt, Int32.not_le, c_11_3, Nat.not_le.mpr c_11_3]; omega) | (revert c_11_3; simp +contextual [seeing, sumN_s, Int32.not_lt, Int32.not_le]; done) | (revert c_11_3; simp +contextual [seeing, sumN_s, Int32.not_lt, Int32.not_le]; omega)
    have e4_7 : (ir + 1 : Nat) = ((ir + 1)) := by first | rfl | omega | (simp [seeing, sumN_s, Int32.not_lt, Int32.not_le, c_11_3, Nat.not_le.mpr c_11_3]; done) | (simp [seeing, sumN_s, Int32.not_lt, Int32.not_le, c_11_3, Nat.not_le.mpr c_11_3]; omega) | (revert c_11_3; simp +contextual [seeing, sumN_s, Int32.not_lt, Int32.not_le]; done) | (revert c_11_3; simp +contextual [seeing, sumN_s, Int32.not_lt, Int32.not_le]; omega)
    have hl4_8 : lv_has ls 4 [(0, .ref (a 0)), (1, .int (bI t0)), (2, .int (nI (sumN (ir + 1) (fun r => seeIn z r t0)))), (3, .int (nI (ir + 1)))] := lv_eqv (l1 := [(0, .ref (a 0)), (1, .int (bI t0)), (2, .int (nI ((sumN ir (fun r => seeIn z r t0)) + (seeIn z ir t0)))), (3, .int (nI (ir + 1)))]) (lv_sub hl [2, 3, 1, 0] rfl) (lv_ce rfl (lv_ce rfl (lv_ce (congrArg (fun x => Value.int (nI x)) e4_6) (lv_ce (congrArg (fun x => Value.int (nI x)) e4_7) rfl))))
    exact ih4 _ (by omega) (hl4_8)
set_option maxHeartbeats 4000000 in
set_option maxRecDepth 100000 in
theorem c_X5_rowNow (l : Launch) (D : va_G) (cI cC cH cL : ClassId) (a : Nat → Nat) (z zh tx pa wy : ZZ) (st le th rd nu pt : Int32) (za : Int64) (r0 : Nat) (wh : Nat) (hw : WF z) (hr : r0 < nR z) (hwh : wh < 6) : Met l yX5_rowNow wsX5_rowNow ({ frames := 7, cells := 0, slots := 0, locals := 164 }) (kp [.ref (a 0), .int (nI r0), .int (nI wh)] D (MW a cI z st zh le tx th pa rd nu pt wy za) (kT cI cC cH cL)) (kr (.returned (some (.int (rowNowI z r0 wh))))) 0 0 (fun _ => False) := by
  refine Met.ofW (cc := cX5_rowNow) (maxL := 3) (ret := (some .int)) (by decide) rfl ?_
  intro p e s m args below meth c s₁ B hml hv
  obtain ⟨rfl, hP, hK⟩ := hv
  have hx := B.exec
  have hb := B.bytes
  have hrt := B.returns
  have hts := atoms_spec (ws := wsX5_rowNow) B.pre
  have hown : s.vm.findClass RX5 = some m.cls := findClass_of_methodNamed B.named
  have hlocks := B.notSynchronized
  have hl := lv_entry ([.ref (a 0), .int (nI r0), .int (nI wh)]) (n := 3) (Nat.le_of_ble_eq_true rfl)
  rw [lg_entry_eq]
  generalize (lg_sl ([.ref (a 0), .int (nI r0), .int (nI wh)]) ++ List.replicate (3 - (lg_sl ([.ref (a 0), .int (nI r0), .int (nI wh)])).length) Slot.unset).toArray = ls at hl ⊢
  have hl : lv_has ls 3 [(0, .ref (a 0)), (1, .int (nI r0)), (2, .int (nI wh))] := hl
  have hR10 := wf_R10 hw
  have hC4 := wf_C4 hw
  rcases (show wh = 0 ∨ wh = 1 ∨ wh = 2 ∨ wh = 3 ∨ wh = 4 ∨ wh = 5 by omega) with rfl | rfl | rfl | rfl | rfl | rfl
  · refine lv_iload_n hx hb dX5_rowNow_0 rfl (lv_at hl 2 rfl) ?_
    refine lv_tableIn (tgt := 36) (off := 35) hx hb dX5_rowNow_1 (by decide) (by decide) (by decide) (by decide) ?_
    refine lv_aload_n hx hb dX5_rowNow_36 rfl (lv_at hl 0 rfl) ?_
    refine lv_iload_n hx hb dX5_rowNow_37 rfl (lv_at hl 1 rfl) ?_
    refine lv_iload_n hx hb dX5_rowNow_38 rfl (lv_at hl 2 rfl) ?_
    refine kr_V (As := [.int (nI r0), .int (nI 0)]) (rest := []) (C := RX5) (own := RX5) ⟨hx, hb, hml, hown, hts⟩ (c_X5_of l D cI cC cH cL a z zh tx pa wy st le th rd nu pt za r0 0 (by first | assumption | omega)) (cwV 2 hts gX5_rowNow_X5_of rfl rfl rfl k_X5_of ⟨Nat.le_of_ble_eq_true rfl, Nat.le_of_ble_eq_true rfl⟩) hP hK (va_recv (q := (RX5, TX5, 12)) hK hP (ci := 5) (q0 := 0) rfl rfl) rfl hl.1 rfl (Nat.le_of_ble_eq_true rfl) dX5_rowNow_39 ⟨Nat.le_of_ble_eq_true rfl, Nat.le_of_ble_eq_true rfl⟩ ?_
    have e_0 : (z (5 + 4 * r0) : Int32) = (rowNowI z r0 0) := by first | rfl | omega | (simp [rowNowI, Int32.not_lt, Int32.not_le]; done) | (simp [rowNowI, Int32.not_lt, Int32.not_le]; omega)
    exact kr_iret hx hb hrt hlocks e_0 rfl dX5_rowNow_42
  · refine lv_iload_n hx hb dX5_rowNow_0 rfl (lv_at hl 2 rfl) ?_
    refine lv_tableIn (tgt := 36) (off := 35) hx hb dX5_rowNow_1 (by decide) (by decide) (by decide) (by decide) ?_
    refine lv_aload_n hx hb dX5_rowNow_36 rfl (lv_at hl 0 rfl) ?_
    refine lv_iload_n hx hb dX5_rowNow_37 rfl (lv_at hl 1 rfl) ?_
    refine lv_iload_n hx hb dX5_rowNow_38 rfl (lv_at hl 2 rfl) ?_
    refine kr_V (As := [.int (nI r0), .int (nI 1)]) (rest := []) (C := RX5) (own := RX5) ⟨hx, hb, hml, hown, hts⟩ (c_X5_of l D cI cC cH cL a z zh tx pa wy st le th rd nu pt za r0 1 (by first | assumption | omega)) (cwV 2 hts gX5_rowNow_X5_of rfl rfl rfl k_X5_of ⟨Nat.le_of_ble_eq_true rfl, Nat.le_of_ble_eq_true rfl⟩) hP hK (va_recv (q := (RX5, TX5, 12)) hK hP (ci := 5) (q0 := 0) rfl rfl) rfl hl.1 rfl (Nat.le_of_ble_eq_true rfl) dX5_rowNow_39 ⟨Nat.le_of_ble_eq_true rfl, Nat.le_of_ble_eq_true rfl⟩ ?_
    have e_1 : (z (5 + 4 * r0 + 1) : Int32) = (rowNowI z r0 1) := by first | rfl | omega | (simp [rowNowI, Int32.not_lt, Int32.not_le]; done) | (simp [rowNowI, Int32.not_lt, Int32.not_le]; omega)
    exact kr_iret hx hb hrt hlocks e_1 rfl dX5_rowNow_42
  · refine lv_iload_n hx hb dX5_rowNow_0 rfl (lv_at hl 2 rfl) ?_
    refine lv_tableIn (tgt := 36) (off := 35) hx hb dX5_rowNow_1 (by decide) (by decide) (by decide) (by decide) ?_
    refine lv_aload_n hx hb dX5_rowNow_36 rfl (lv_at hl 0 rfl) ?_
    refine lv_iload_n hx hb dX5_rowNow_37 rfl (lv_at hl 1 rfl) ?_
    refine lv_iload_n hx hb dX5_rowNow_38 rfl (lv_at hl 2 rfl) ?_
    refine kr_V (As := [.int (nI r0), .int (nI 2)]) (rest := []) (C := RX5) (own := RX5) ⟨hx, hb, hml, hown, hts⟩ (c_X5_of l D cI cC cH cL a z zh tx pa wy st le th rd nu pt za r0 2 (by first | assumption | omega)) (cwV 2 hts gX5_rowNow_X5_of rfl rfl rfl k_X5_of ⟨Nat.le_of_ble_eq_true rfl, Nat.le_of_ble_eq_true rfl⟩) hP hK (va_recv (q := (RX5, TX5, 12)) hK hP (ci := 5) (q0 := 0) rfl rfl) rfl hl.1 rfl (Nat.le_of_ble_eq_true rfl) dX5_rowNow_39 ⟨Nat.le_of_ble_eq_true rfl, Nat.le_of_ble_eq_true rfl⟩ ?_
    refine kx_top (wf_S hw (show (r0) < nR z by omega)) ?_
    have hS12_2 := wf_S12 hw (show (r0) < nR z by omega)
    have e_3 : (nI (nS z (r0)) : Int32) = (rowNowI z r0 2) := by first | rfl | omega | (simp [rowNowI, Int32.not_lt, Int32.not_le]; done) | (simp [rowNowI, Int32.not_lt, Int32.not_le]; omega)
    exact kr_iret hx hb hrt hlocks e_3 rfl dX5_rowNow_42
  · refine lv_iload_n hx hb dX5_rowNow_0 rfl (lv_at hl 2 rfl) ?_
    refine lv_tableIn (tgt := 43) (off := 42) hx hb dX5_rowNow_1 (by decide) (by decide) (by decide) (by decide) ?_
    refine lv_aload_n hx hb dX5_rowNow_43 rfl (lv_at hl 0 rfl) ?_
    refine lv_iload_n hx hb dX5_rowNow_44 rfl (lv_at hl 1 rfl) ?_
    refine kr_V (As := [.int (nI r0)]) (rest := []) (C := RX5) (own := RX5) ⟨hx, hb, hml, hown, hts⟩ (c_X5_takenIn l D cI cC cH cL a z zh tx pa wy st le th rd nu pt za r0 (by first | assumption | omega) (by first | assumption | omega)) (cwV 1 hts gX5_rowNow_X5_takenIn rfl rfl rfl k_X5_takenIn ⟨Nat.le_of_ble_eq_true rfl, Nat.le_of_ble_eq_true rfl⟩) hP hK (va_recv (q := (RX5, TX5, 12)) hK hP (ci := 5) (q0 := 0) rfl rfl) rfl hl.1 rfl (Nat.le_of_ble_eq_true rfl) dX5_rowNow_45 ⟨Nat.le_of_ble_eq_true rfl, Nat.le_of_ble_eq_true rfl⟩ ?_
    have e_4 : (nI (takenIn z r0) : Int32) = (rowNowI z r0 3) := by first | rfl | omega | (simp [rowNowI, Int32.not_lt, Int32.not_le]; done) | (simp [rowNowI, Int32.not_lt, Int32.not_le]; omega)
    exact kr_iret hx hb hrt hlocks e_4 rfl dX5_rowNow_48
  · refine lv_iload_n hx hb dX5_rowNow_0 rfl (lv_at hl 2 rfl) ?_
    refine lv_tableIn (tgt := 49) (off := 48) hx hb dX5_rowNow_1 (by decide) (by decide) (by decide) (by decide) ?_
    refine lv_aload_n hx hb dX5_rowNow_49 rfl (lv_at hl 0 rfl) ?_
    refine lv_iload_n hx hb dX5_rowNow_50 rfl (lv_at hl 1 rfl) ?_
    refine lv_iconst (v := nI 0) hx hb dX5_rowNow_51 (by decide) ?_
    refine kr_V (As := [.int (nI r0), .int (bI false)]) (rest := []) (C := RX5) (own := RX5) ⟨hx, hb, hml, hown, hts⟩ (c_X5_seeingIn l D cI cC cH cL a z zh tx pa wy st le th rd nu pt za r0 false (by first | assumption | omega) (by first | assumption | omega)) (cwV 2 hts gX5_rowNow_X5_seeingIn rfl rfl rfl k_X5_seeingIn ⟨Nat.le_of_ble_eq_true rfl, Nat.le_of_ble_eq_true rfl⟩) hP hK (va_recv (q := (RX5, TX5, 12)) hK hP (ci := 5) (q0 := 0) rfl rfl) rfl hl.1 rfl (Nat.le_of_ble_eq_true rfl) dX5_rowNow_52 ⟨Nat.le_of_ble_eq_true rfl, Nat.le_of_ble_eq_true rfl⟩ ?_
    have e_5 : (nI (seeIn z r0 false) : Int32) = (rowNowI z r0 4) := by first | rfl | omega | (simp [rowNowI, Int32.not_lt, Int32.not_le]; done) | (simp [rowNowI, Int32.not_lt, Int32.not_le]; omega)
    exact kr_iret hx hb hrt hlocks e_5 rfl dX5_rowNow_55
  · refine lv_iload_n hx hb dX5_rowNow_0 rfl (lv_at hl 2 rfl) ?_
    refine lv_tableOut (tgt := 56) hx hb dX5_rowNow_1 (by decide) (by decide) ?_
    refine lv_aload_n hx hb dX5_rowNow_56 rfl (lv_at hl 0 rfl) ?_
    refine lv_iload_n hx hb dX5_rowNow_57 rfl (lv_at hl 1 rfl) ?_
    refine lv_iconst (v := nI 1) hx hb dX5_rowNow_58 (by decide) ?_
    refine kr_V (As := [.int (nI r0), .int (nI 1)]) (rest := []) (C := RX5) (own := RX5) ⟨hx, hb, hml, hown, hts⟩ (c_X5_of l D cI cC cH cL a z zh tx pa wy st le th rd nu pt za r0 1 (by first | assumption | omega)) (cwV 2 hts gX5_rowNow_X5_of rfl rfl rfl k_X5_of ⟨Nat.le_of_ble_eq_true rfl, Nat.le_of_ble_eq_true rfl⟩) hP hK (va_recv (q := (RX5, TX5, 12)) hK hP (ci := 5) (q0 := 0) rfl rfl) rfl hl.1 rfl (Nat.le_of_ble_eq_true rfl) dX5_rowNow_59 ⟨Nat.le_of_ble_eq_true rfl, Nat.le_of_ble_eq_true rfl⟩ ?_
    refine lv_iload_n hx hb dX5_rowNow_62 rfl (lv_at hl 1 rfl) ?_
    refine kx_if_ne (tgt := 70) hx hb (by omega) dX5_rowNow_63 (by decide) (fun c_63_6 => ?_) (fun c_63_7 => ?_)
    · refine lv_aload_n hx hb dX5_rowNow_70 rfl (lv_at hl 0 rfl) ?_
      refine lv_iload_n hx hb dX5_rowNow_71 rfl (lv_at hl 1 rfl) ?_
      refine lv_iconst (v := nI 1) hx hb dX5_rowNow_72 (by decide) ?_
      refine kx_isub hx hb (by omega) dX5_rowNow_73 ?_
      refine lv_iconst (v := nI 1) hx hb dX5_rowNow_74 (by decide) ?_
      refine kr_V (As := [.int (nI (r0 - 1)), .int (nI 1)]) (rest := [.int (z (5 + 4 * r0 + 1))]) (C := RX5) (own := RX5) ⟨hx, hb, hml, hown, hts⟩ (c_X5_of l D cI cC cH cL a z zh tx pa wy st le th rd nu pt za (r0 - 1) 1 (by first | assumption | omega)) (cwV 2 hts gX5_rowNow_X5_of rfl rfl rfl k_X5_of ⟨Nat.le_of_ble_eq_true rfl, Nat.le_of_ble_eq_true rfl⟩) hP hK (va_recv (q := (RX5, TX5, 12)) hK hP (ci := 5) (q0 := 0) rfl rfl) rfl hl.1 rfl (Nat.le_of_ble_eq_true rfl) dX5_rowNow_75 ⟨Nat.le_of_ble_eq_true rfl, Nat.le_of_ble_eq_true rfl⟩ ?_
      refine lv_isub hx hb dX5_rowNow_78 ?_
      have e_8 : (((z (5 + 4 * r0 + 1)) - (z (5 + 4 * (r0 - 1) + 1))) : Int32) = (rowNowI z r0 5) := by first | rfl | omega | (simp [rowNowI, Int32.not_lt, Int32.not_le, c_63_6, Nat.ne_of_gt c_63_6]; done) | (simp [rowNowI, Int32.not_lt, Int32.not_le, c_63_6, Nat.ne_of_gt c_63_6]; omega) | (revert c_63_6; simp +contextual [rowNowI, Int32.not_lt, Int32.not_le]; done) | (revert c_63_6; simp +contextual [rowNowI, Int32.not_lt, Int32.not_le]; omega)
      exact kr_iret hx hb hrt hlocks e_8 rfl dX5_rowNow_79
    · refine lv_iconst (v := nI 0) hx hb dX5_rowNow_66 (by decide) ?_
      refine lv_goto (tgt := 78) hx hb dX5_rowNow_67 (by decide) ?_
      refine lv_isub hx hb dX5_rowNow_78 ?_
      have e_9 : (((z (5 + 4 * r0 + 1)) - (nI 0)) : Int32) = (rowNowI z r0 5) := by first | rfl | omega | (simp [rowNowI, Int32.not_lt, Int32.not_le, c_63_7]; done) | (simp [rowNowI, Int32.not_lt, Int32.not_le, c_63_7]; omega) | (revert c_63_7; simp +contextual [rowNowI, Int32.not_lt, Int32.not_le]; done) | (revert c_63_7; simp +contextual [rowNowI, Int32.not_lt, Int32.not_le]; omega)
      exact kr_iret hx hb hrt hlocks e_9 rfl dX5_rowNow_79
set_option maxRecDepth 20000 in
theorem iX5_blocked_5 : ∀ w ∈ wsX50, w ∈ wsX5_blocked := by decide +kernel
set_option maxHeartbeats 4000000 in
set_option maxRecDepth 100000 in
theorem c_X5_blocked (l : Launch) (D : va_G) (cI cC cH cL : ClassId) (a : Nat → Nat) (z zh tx pa wy : ZZ) (st le th rd nu pt : Int32) (za : Int64) (r0 : Nat) (s0 : Nat) (t0 : Bool) (hw : WF z) (hr : r0 < nR z) : Met l yX5_blocked wsX5_blocked ({ frames := 6, cells := 0, slots := 0, locals := 140 }) (kp [.ref (a 0), .int (nI r0), .int (nI s0), .int (bI t0)] D (MW a cI z st zh le tx th pa rd nu pt wy za) (kT cI cC cH cL)) (kr (.returned (some (.int (nI (blkd z r0 s0 t0)))))) 0 0 (fun _ => False) := by
  refine Met.ofW (cc := cX5_blocked) (maxL := 8) (ret := (some .int)) (by decide) rfl ?_
  intro p e s m args below meth c s₁ B hml hv
  obtain ⟨rfl, hP, hK⟩ := hv
  have hx := B.exec
  have hb := B.bytes
  have hrt := B.returns
  have hts := atoms_spec (ws := wsX5_blocked) B.pre
  have hown : s.vm.findClass RX5 = some m.cls := findClass_of_methodNamed B.named
  have hlocks := B.notSynchronized
  have hl := lv_entry ([.ref (a 0), .int (nI r0), .int (nI s0), .int (bI t0)]) (n := 8) (Nat.le_of_ble_eq_true rfl)
  rw [lg_entry_eq]
  generalize (lg_sl ([.ref (a 0), .int (nI r0), .int (nI s0), .int (bI t0)]) ++ List.replicate (8 - (lg_sl ([.ref (a 0), .int (nI r0), .int (nI s0), .int (bI t0)])).length) Slot.unset).toArray = ls at hl ⊢
  have hl : lv_has ls 8 [(0, .ref (a 0)), (1, .int (nI r0)), (2, .int (nI s0)), (3, .int (bI t0))] := hl
  have hR10 := wf_R10 hw
  have hC4 := wf_C4 hw
  refine lv_iconst (v := nI 0) hx hb dX5_blocked_0 (by decide) ?_
  refine lv_istore (lv' := [(4, .int (nI 0)), (0, .ref (a 0)), (1, .int (nI r0)), (2, .int (nI s0)), (3, .int (bI t0))]) hx hb dX5_blocked_1 hl (by decide) rfl (fun ls hl => ?_)
  refine lv_iload_n hx hb dX5_blocked_3 rfl (lv_at hl 2 rfl) ?_
  refine lv_iconst (v := nI 1) hx hb dX5_blocked_4 (by decide) ?_
  refine kx_iadd hx hb dX5_blocked_5 ?_
  refine lv_istore (lv' := [(5, .int (nI (r0 + 1))), (4, .int (nI 0)), (0, .ref (a 0)), (1, .int (nI r0)), (2, .int (nI s0)), (3, .int (bI t0))]) hx hb dX5_blocked_6 hl (by decide) rfl (fun ls hl => ?_)
  have e8_0 : (0 : Nat) = (sumN 0 (fun j => blkA z r0 s0 t0 (r0 + 1 + j))) := by first | rfl | omega | (simp [blkd, blkA, sumN_s, b2, Int32.not_lt, Int32.not_le]; done) | (simp [blkd, blkA, sumN_s, b2, Int32.not_lt, Int32.not_le]; omega)
  have e8_1 : (r0 + 1 : Nat) = (r0 + 1 + 0) := by first | rfl | omega | (simp [blkd, blkA, sumN_s, b2, Int32.not_lt, Int32.not_le]; done) | (simp [blkd, blkA, sumN_s, b2, Int32.not_lt, Int32.not_le]; omega)
  have hl8_2 : lv_has ls 8 [(0, .ref (a 0)), (1, .int (nI r0)), (2, .int (nI s0)), (3, .int (bI t0)), (4, .int (nI (sumN 0 (fun j => blkA z r0 s0 t0 (r0 + 1 + j))))), (5, .int (nI (r0 + 1 + 0)))] := lv_eqv (l1 := [(0, .ref (a 0)), (1, .int (nI r0)), (2, .int (nI s0)), (3, .int (bI t0)), (4, .int (nI 0)), (5, .int (nI (r0 + 1)))]) (lv_sub hl [2, 3, 4, 5, 1, 0] rfl) (lv_ce rfl (lv_ce rfl (lv_ce rfl (lv_ce rfl (lv_ce (congrArg (fun x => Value.int (nI x)) e8_0) (lv_ce (congrArg (fun x => Value.int (nI x)) e8_1) rfl))))))
  refine kx_up (fun k ls => lv_has ls 8 [(0, .ref (a 0)), (1, .int (nI r0)), (2, .int (nI s0)), (3, .int (bI t0)), (4, .int (nI (sumN k (fun j => blkA z r0 s0 t0 (r0 + 1 + j))))), (5, .int (nI (r0 + 1 + k)))]) (0) (nR z - (r0 + 1)) (by omega) ls (hl8_2) ?_
  intro ir ls hirl hirh hp ih8
  have hl := hp
  refine lv_iload hx hb dX5_blocked_8 (lv_at hl 5 rfl) ?_
  refine lv_aload_n hx hb dX5_blocked_10 rfl (lv_at hl 0 rfl) ?_
  refine va_get (D := D) (ci := 5) (v := .ref (a 1)) (C := RX5) (T := TX5) (N := 12) hx hb hts iX5_blocked_5 hown hK hP 0 rfl rfl 0 (by decide) (hts (.fieldLink RX5 7 "HallSightsModel" "z" "[I") (List.mem_of_getElem? (i := 1) rfl)) (fun _ h9 => h9) rfl dX5_blocked_11 ?_
  refine lv_iconst (v := nI 3) hx hb dX5_blocked_14 (by decide) ?_
  refine kx_iald hx hb hK hP 1 0 rfl rfl (by omega) (by decide) dX5_blocked_15 ?_
  refine kx_top (wf_R hw) ?_
  refine kx_icmp_ge (tgt := 107) hx hb (by omega) (by omega) dX5_blocked_16 (by decide) (fun c_16_3 => ?_) (fun c_16_4 => ?_)
  · have hq5 : nR z - (r0 + 1) = ir := by omega
    subst hq5
    refine lv_iload hx hb dX5_blocked_107 (lv_at hl 4 rfl) ?_
    have e_6 : (sumN (nR z - (r0 + 1)) (fun j => blkA z r0 s0 t0 (r0 + 1 + j)) : Nat) = (blkd z r0 s0 t0) := by first | rfl | omega | (simp [blkd, blkA, sumN_s, b2, Int32.not_lt, Int32.not_le, c_16_3, Nat.not_lt.mpr c_16_3]; done) | (simp [blkd, blkA, sumN_s, b2, Int32.not_lt, Int32.not_le, c_16_3, Nat.not_lt.mpr c_16_3]; omega) | (revert c_16_3; simp +contextual [blkd, blkA, sumN_s, b2, Int32.not_lt, Int32.not_le]; done) | (revert c_16_3; simp +contextual [blkd, blkA, sumN_s, b2, Int32.not_lt, Int32.not_le]; omega)
    exact kr_iret hx hb hrt hlocks (congrArg nI e_6) rfl dX5_blocked_109
  · refine lv_iconst (v := nI 0) hx hb dX5_blocked_19 (by decide) ?_
    refine lv_istore (lv' := [(6, .int (nI 0)), (0, .ref (a 0)), (1, .int (nI r0)), (2, .int (nI s0)), (3, .int (bI t0)), (4, .int (nI (sumN ir (fun j => blkA z r0 s0 t0 (r0 + 1 + j))))), (5, .int (nI (r0 + 1 + ir)))]) hx hb dX5_blocked_20 hl (by decide) rfl (fun ls hl => ?_)
    have e22_7 : (sumN ir (fun j => blkA z r0 s0 t0 (r0 + 1 + j)) : Nat) = (sumN ir (fun j => blkA z r0 s0 t0 (r0 + 1 + j)) + sumN 0 (fun w => b2 ((tk z (r0 + 1 + ir) w && blk z r0 s0 (r0 + 1 + ir) w) && (!t0 || seesB z (r0 + 1 + ir) w)))) := by first | rfl | omega | (simp [blkd, blkA, sumN_s, b2, Int32.not_lt, Int32.not_le, c_16_4, Nat.not_le.mpr c_16_4]; done) | (simp [blkd, blkA, sumN_s, b2, Int32.not_lt, Int32.not_le, c_16_4, Nat.not_le.mpr c_16_4]; omega) | (revert c_16_4; simp +contextual [blkd, blkA, sumN_s, b2, Int32.not_lt, Int32.not_le]; done) | (revert c_16_4; simp +contextual [blkd, blkA, sumN_s, b2, Int32.not_lt, Int32.not_le]; omega)
    have hl22_8 : lv_has ls 8 [(0, .ref (a 0)), (1, .int (nI r0)), (2, .int (nI s0)), (3, .int (bI t0)), (5, .int (nI (r0 + 1 + ir))), (4, .int (nI (sumN ir (fun j => blkA z r0 s0 t0 (r0 + 1 + j)) + sumN 0 (fun w => b2 ((tk z (r0 + 1 + ir) w && blk z r0 s0 (r0 + 1 + ir) w) && (!t0 || seesB z (r0 + 1 + ir) w)))))), (6, .int (nI 0))] := lv_eqv (l1 := [(0, .ref (a 0)), (1, .int (nI r0)), (2, .int (nI s0)), (3, .int (bI t0)), (5, .int (nI (r0 + 1 + ir))), (4, .int (nI (sumN ir (fun j => blkA z r0 s0 t0 (r0 + 1 + j))))), (6, .int (nI 0))]) (lv_sub hl [1, 2, 3, 4, 6, 5, 0] rfl) (lv_ce rfl (lv_ce rfl (lv_ce rfl (lv_ce rfl (lv_ce rfl (lv_ce (congrArg (fun x => Value.int (nI x)) e22_7) (lv_ce rfl rfl)))))))
    refine kx_up (fun k ls => lv_has ls 8 [(0, .ref (a 0)), (1, .int (nI r0)), (2, .int (nI s0)), (3, .int (bI t0)), (5, .int (nI (r0 + 1 + ir))), (4, .int (nI (sumN ir (fun j => blkA z r0 s0 t0 (r0 + 1 + j)) + sumN k (fun w => b2 ((tk z (r0 + 1 + ir) w && blk z r0 s0 (r0 + 1 + ir) w) && (!t0 || seesB z (r0 + 1 + ir) w)))))), (6, .int (nI k))]) (0) (nS z (r0 + 1 + ir)) (by omega) ls (hl22_8) ?_
    intro iw ls hiwl hiwh hp ih22
    have hl := hp
    refine lv_iload hx hb dX5_blocked_22 (lv_at hl 6 rfl) ?_
    refine lv_aload_n hx hb dX5_blocked_24 rfl (lv_at hl 0 rfl) ?_
    refine lv_iload hx hb dX5_blocked_25 (lv_at hl 4 rfl) ?_
    refine lv_iconst (v := nI 2) hx hb dX5_blocked_27 (by decide) ?_
    refine kr_V (As := [.int (nI (r0 + 1 + ir)), .int (nI 2)]) (rest := [.int (nI iw)]) (C := RX5) (own := RX5) ⟨hx, hb, hml, hown, hts⟩ (c_X5_of l D cI cC cH cL a z zh tx pa wy st le th rd nu pt za (r0 + 1 + ir) 2 (by first | assumption | omega)) (cwV 2 hts gX5_blocked_X5_of rfl rfl rfl k_X5_of ⟨Nat.le_of_ble_eq_true rfl, Nat.le_of_ble_eq_true rfl⟩) hP hK (va_recv (q := (RX5, TX5, 12)) hK hP (ci := 5) (q0 := 0) rfl rfl) rfl hl.1 rfl (Nat.le_of_ble_eq_true rfl) dX5_blocked_28 ⟨Nat.le_of_ble_eq_true rfl, Nat.le_of_ble_eq_true rfl⟩ ?_
    refine kx_top (wf_S hw (show ((r0 + 1 + ir)) < nR z by omega)) ?_
    have hS12_9 := wf_S12 hw (show ((r0 + 1 + ir)) < nR z by omega)
    refine kx_icmp_ge (tgt := 101) hx hb (by omega) (by omega) dX5_blocked_31 (by decide) (fun c_31_10 => ?_) (fun c_31_11 => ?_)
    · have hq12 : nS z (r0 + 1 + ir) = iw := by omega
      subst hq12
      refine lv_iinc (v := nI ((r0 + 1 + ir) + 1)) (lv' := [(5, .int (nI ((r0 + 1 + ir) + 1))), (0, .ref (a 0)), (1, .int (nI r0)), (2, .int (nI s0)), (3, .int (bI t0)), (4, .int (nI (sumN ir (fun j => blkA z r0 s0 t0 (r0 + 1 + j)) + sumN (nS z (r0 + 1 + ir)) (fun w => b2 ((tk z (r0 + 1 + ir) w && blk z r0 s0 (r0 + 1 + ir) w) && (!t0 || seesB z (r0 + 1 + ir) w)))))), (6, .int (nI (nS z (r0 + 1 + ir))))]) hx hb dX5_blocked_101 hl (k := 4) rfl (kx_inc 1) (by decide) rfl (fun ls hl => ?_)
      refine lv_goto (tgt := 8) hx hb dX5_blocked_104 (by decide) ?_
      have e8_13 : (sumN ir (fun j => blkA z r0 s0 t0 (r0 + 1 + j)) + sumN (nS z (r0 + 1 + ir)) (fun w => b2 ((tk z (r0 + 1 + ir) w && blk z r0 s0 (r0 + 1 + ir) w) && (!t0 || seesB z (r0 + 1 + ir) w))) : Nat) = (sumN (ir + 1) (fun j => blkA z r0 s0 t0 (r0 + 1 + j))) := by first | rfl | omega | (simp [blkd, blkA, sumN_s, b2, Int32.not_lt, Int32.not_le, c_16_4, Nat.not_le.mpr c_16_4, c_31_10, Nat.not_lt.mpr c_31_10]; done) | (simp [blkd, blkA, sumN_s, b2, Int32.not_lt, Int32.not_le, c_16_4, Nat.not_le.mpr c_16_4, c_31_10, Nat.not_lt.mpr c_31_10]; omega) | (revert c_16_4 c_31_10; simp +contextual [blkd, blkA, sumN_s, b2, Int32.not_lt, Int32.not_le]; done) | (revert c_16_4 c_31_10; simp +contextual [blkd, blkA, sumN_s, b2, Int32.not_lt, Int32.not_le]; omega)
      have e8_14 : ((r0 + 1 + ir) + 1 : Nat) = (r0 + 1 + (ir + 1)) := by first | rfl | omega | (simp [blkd, blkA, sumN_s, b2, Int32.not_lt, Int32.not_le, c_16_4, Nat.not_le.mpr c_16_4, c_31_10, Nat.not_lt.mpr c_31_10]; done) | (simp [blkd, blkA, sumN_s, b2, Int32.not_lt, Int32.not_le, c_16_4, Nat.not_le.mpr c_16_4, c_31_10, Nat.not_lt.mpr c_31_10]; omega) | (revert c_16_4 c_31_10; simp +contextual [blkd, blkA, sumN_s, b2, Int32.not_lt, Int32.not_le]; done) | (revert c_16_4 c_31_10; simp +contextual [blkd, blkA, sumN_s, b2, Int32.not_lt, Int32.not_le]; omega)
      have hl8_15 : lv_has ls 8 [(0, .ref (a 0)), (1, .int (nI r0)), (2, .int (nI s0)), (3, .int (bI t0)), (4, .int (nI (sumN (ir + 1) (fun j => blkA z r0 s0 t0 (r0 + 1 + j))))), (5, .int (nI (r0 + 1 + (ir + 1))))] := lv_eqv (l1 := [(0, .ref (a 0)), (1, .int (nI r0)), (2, .int (nI s0)), (3, .int (bI t0)), (4, .int (nI (sumN ir (fun j => blkA z r0 s0 t0 (r0 + 1 + j)) + sumN (nS z (r0 + 1 + ir)) (fun w => b2 ((tk z (r0 + 1 + ir) w && blk z r0 s0 (r0 + 1 + ir) w) && (!t0 || seesB z (r0 + 1 + ir) w)))))), (5, .int (nI ((r0 + 1 + ir) + 1)))]) (lv_sub hl [1, 2, 3, 4, 5, 0] rfl) (lv_ce rfl (lv_ce rfl (lv_ce rfl (lv_ce rfl (lv_ce (congrArg (fun x => Value.int (nI x)) e8_13) (lv_ce (congrArg (fun x => Value.int (nI x)) e8_14) rfl))))))
      exact ih8 _ (by omega) (hl8_15)
    · refine lv_aload_n hx hb dX5_blocked_34 rfl (lv_at hl 0 rfl) ?_
      refine lv_iload hx hb dX5_blocked_35 (lv_at hl 4 rfl) ?_
      refine lv_iload hx hb dX5_blocked_37 (lv_at hl 6 rfl) ?_
      refine kr_V (As := [.int (nI (r0 + 1 + ir)), .int (nI iw)]) (rest := []) (C := RX5) (own := RX5) ⟨hx, hb, hml, hown, hts⟩ (c_X5_isTaken l D cI cC cH cL a z zh tx pa wy st le th rd nu pt za (r0 + 1 + ir) iw (by first | assumption | omega)) (cwV 2 hts gX5_blocked_X5_isTaken rfl rfl rfl k_X5_isTaken ⟨Nat.le_of_ble_eq_true rfl, Nat.le_of_ble_eq_true rfl⟩) hP hK (va_recv (q := (RX5, TX5, 12)) hK hP (ci := 5) (q0 := 0) rfl rfl) rfl hl.1 rfl (Nat.le_of_ble_eq_true rfl) dX5_blocked_39 ⟨Nat.le_of_ble_eq_true rfl, Nat.le_of_ble_eq_true rfl⟩ ?_
      refine kx_if_eqb (tgt := 62) hx hb dX5_blocked_42 (by decide) (fun c_42_16 => ?_) (fun c_42_17 => ?_)
      · refine lv_iconst (v := nI 0) hx hb dX5_blocked_62 (by decide) ?_
        refine lv_istore (lv' := [(7, .int (nI 0)), (0, .ref (a 0)), (1, .int (nI r0)), (2, .int (nI s0)), (3, .int (bI t0)), (5, .int (nI (r0 + 1 + ir))), (4, .int (nI (sumN ir (fun j => blkA z r0 s0 t0 (r0 + 1 + j)) + sumN iw (fun w => b2 ((tk z (r0 + 1 + ir) w && blk z r0 s0 (r0 + 1 + ir) w) && (!t0 || seesB z (r0 + 1 + ir) w)))))), (6, .int (nI iw))]) hx hb dX5_blocked_63 hl (by decide) rfl (fun ls hl => ?_)
        refine lv_iload hx hb dX5_blocked_65 (lv_at hl 6 rfl) ?_
        refine lv_iload hx hb dX5_blocked_67 (lv_at hl 0 rfl) ?_
        refine kx_if_eq (tgt := 91) hx hb (by omega) dX5_blocked_69 (by decide) (fun c_69_18 => ?_) (fun c => absurd c (by omega))
        refine lv_iconst (v := nI 0) hx hb dX5_blocked_91 (by decide) ?_
        refine kx_iadd hx hb dX5_blocked_92 ?_
        refine lv_istore (lv' := [(4, .int (nI ((sumN ir (fun j => blkA z r0 s0 t0 (r0 + 1 + j)) + sumN iw (fun w => b2 ((tk z (r0 + 1 + ir) w && blk z r0 s0 (r0 + 1 + ir) w) && (!t0 || seesB z (r0 + 1 + ir) w)))) + 0))), (7, .int (nI 0)), (0, .ref (a 0)), (1, .int (nI r0)), (2, .int (nI s0)), (3, .int (bI t0)), (5, .int (nI (r0 + 1 + ir))), (6, .int (nI iw))]) hx hb dX5_blocked_93 hl (by decide) rfl (fun ls hl => ?_)
        refine lv_iinc (v := nI (iw + 1)) (lv' := [(6, .int (nI (iw + 1))), (4, .int (nI ((sumN ir (fun j => blkA z r0 s0 t0 (r0 + 1 + j)) + sumN iw (fun w => b2 ((tk z (r0 + 1 + ir) w && blk z r0 s0 (r0 + 1 + ir) w) && (!t0 || seesB z (r0 + 1 + ir) w)))) + 0))), (7, .int (nI 0)), (0, .ref (a 0)), (1, .int (nI r0)), (2, .int (nI s0)), (3, .int (bI t0)), (5, .int (nI (r0 + 1 + ir)))]) hx hb dX5_blocked_95 hl (k := 7) rfl (kx_inc 1) (by decide) rfl (fun ls hl => ?_)
        refine lv_goto (tgt := 22) hx hb dX5_blocked_98 (by decide) ?_
        have e22_19 : ((sumN ir (fun j => blkA z r0 s0 t0 (r0 + 1 + j)) + sumN iw (fun w => b2 ((tk z (r0 + 1 + ir) w && blk z r0 s0 (r0 + 1 + ir) w) && (!t0 || seesB z (r0 + 1 + ir) w)))) + 0 : Nat) = (sumN ir (fun j => blkA z r0 s0 t0 (r0 + 1 + j)) + sumN (iw + 1) (fun w => b2 ((tk z (r0 + 1 + ir) w && blk z r0 s0 (r0 + 1 + ir) w) && (!t0 || seesB z (r0 + 1 + ir) w)))) := by first | rfl | omega | (simp [blkd, blkA, sumN_s, b2, Int32.not_lt, Int32.not_le, c_16_4, Nat.not_le.mpr c_16_4, c_31_11, Nat.not_le.mpr c_31_11, c_42_16]; done) | (simp [blkd, blkA, sumN_s, b2, Int32.not_lt, Int32.not_le, c_16_4, Nat.not_le.mpr c_16_4, c_31_11, Nat.not_le.mpr c_31_11, c_42_16]; omega) | (revert c_16_4 c_31_11 c_42_16; simp +contextual [blkd, blkA, sumN_s, b2, Int32.not_lt, Int32.not_le]; done) | (revert c_16_4 c_31_11 c_42_16; simp +contextual [blkd, blkA, sumN_s, b2, Int32.not_lt, Int32.not_le]; omega)
        have e22_20 : (iw + 1 : Nat) = ((iw + 1)) := by first | rfl | omega | (simp [blkd, blkA, sumN_s, b2, Int32.not_lt, Int32.not_le, c_16_4, Nat.not_le.mpr c_16_4, c_31_11, Nat.not_le.mpr c_31_11, c_42_16]; done) | (simp [blkd, blkA, sumN_s, b2, Int32.not_lt, Int32.not_le, c_16_4, Nat.not_le.mpr c_16_4, c_31_11, Nat.not_le.mpr c_31_11, c_42_16]; omega) | (revert c_16_4 c_31_11 c_42_16; simp +contextual [blkd, blkA, sumN_s, b2, Int32.not_lt, Int32.not_le]; done) | (revert c_16_4 c_31_11 c_42_16; simp +contextual [blkd, blkA, sumN_s, b2, Int32.not_lt, Int32.not_le]; omega)
        have hl22_21 : lv_has ls 8 [(0, .ref (a 0)), (1, .int (nI r0)), (2, .int (nI s0)), (3, .int (bI t0)), (5, .int (nI (r0 + 1 + ir))), (4, .int (nI (sumN ir (fun j => blkA z r0 s0 t0 (r0 + 1 + j)) + sumN (iw + 1) (fun w => b2 ((tk z (r0 + 1 + ir) w && blk z r0 s0 (r0 + 1 + ir) w) && (!t0 || seesB z (r0 + 1 + ir) w)))))), (6, .int (nI (iw + 1)))] := lv_eqv (l1 := [(0, .ref (a 0)), (1, .int (nI r0)), (2, .int (nI s0)), (3, .int (bI t0)), (5, .int (nI (r0 + 1 + ir))), (4, .int (nI ((sumN ir (fun j => blkA z r0 s0 t0 (r0 + 1 + j)) + sumN iw (fun w => b2 ((tk z (r0 + 1 + ir) w && blk z r0 s0 (r0 + 1 + ir) w) && (!t0 || seesB z (r0 + 1 + ir) w)))) + 0))), (6, .int (nI (iw + 1)))]) (lv_sub hl [3, 4, 5, 6, 7, 1, 0] rfl) (lv_ce rfl (lv_ce rfl (lv_ce rfl (lv_ce rfl (lv_ce rfl (lv_ce (congrArg (fun x => Value.int (nI x)) e22_19) (lv_ce (congrArg (fun x => Value.int (nI x)) e22_20) rfl)))))))
        exact ih22 _ (by omega) (hl22_21)
      · refine lv_aload_n hx hb dX5_blocked_45 rfl (lv_at hl 0 rfl) ?_
        refine lv_iload_n hx hb dX5_blocked_46 rfl (lv_at hl 1 rfl) ?_
        refine lv_iload_n hx hb dX5_blocked_47 rfl (lv_at hl 2 rfl) ?_
        refine lv_iload hx hb dX5_blocked_48 (lv_at hl 4 rfl) ?_
        refine lv_iload hx hb dX5_blocked_50 (lv_at hl 6 rfl) ?_
        refine kr_V (As := [.int (nI r0), .int (nI s0), .int (nI (r0 + 1 + ir)), .int (nI iw)]) (rest := []) (C := RX5) (own := RX5) ⟨hx, hb, hml, hown, hts⟩ (c_X5_blocks l D cI cC cH cL a z zh tx pa wy st le th rd nu pt za r0 s0 (r0 + 1 + ir) iw (by first | assumption | omega) (by first | assumption | omega) (by first | assumption | omega)) (cwV 4 hts gX5_blocked_X5_blocks rfl rfl rfl k_X5_blocks ⟨Nat.le_of_ble_eq_true rfl, Nat.le_of_ble_eq_true rfl⟩) hP hK (va_recv (q := (RX5, TX5, 12)) hK hP (ci := 5) (q0 := 0) rfl rfl) rfl hl.1 rfl (Nat.le_of_ble_eq_true rfl) dX5_blocked_52 ⟨Nat.le_of_ble_eq_true rfl, Nat.le_of_ble_eq_true rfl⟩ ?_
        refine kx_if_eqb (tgt := 62) hx hb dX5_blocked_55 (by decide) (fun c_55_22 => ?_) (fun c_55_23 => ?_)
        · refine lv_iconst (v := nI 0) hx hb dX5_blocked_62 (by decide) ?_
          refine lv_istore (lv' := [(7, .int (nI 0)), (0, .ref (a 0)), (1, .int (nI r0)), (2, .int (nI s0)), (3, .int (bI t0)), (5, .int (nI (r0 + 1 + ir))), (4, .int (nI (sumN ir (fun j => blkA z r0 s0 t0 (r0 + 1 + j)) + sumN iw (fun w => b2 ((tk z (r0 + 1 + ir) w && blk z r0 s0 (r0 + 1 + ir) w) && (!t0 || seesB z (r0 + 1 + ir) w)))))), (6, .int (nI iw))]) hx hb dX5_blocked_63 hl (by decide) rfl (fun ls hl => ?_)
          refine lv_iload hx hb dX5_blocked_65 (lv_at hl 6 rfl) ?_
          refine lv_iload hx hb dX5_blocked_67 (lv_at hl 0 rfl) ?_
          refine kx_if_eq (tgt := 91) hx hb (by omega) dX5_blocked_69 (by decide) (fun c_69_24 => ?_) (fun c => absurd c (by omega))
          refine lv_iconst (v := nI 0) hx hb dX5_blocked_91 (by decide) ?_
          refine kx_iadd hx hb dX5_blocked_92 ?_
          refine lv_istore (lv' := [(4, .int (nI ((sumN ir (fun j => blkA z r0 s0 t0 (r0 + 1 + j)) + sumN iw (fun w => b2 ((tk z (r0 + 1 + ir) w && blk z r0 s0 (r0 + 1 + ir) w) && (!t0 || seesB z (r0 + 1 + ir) w)))) + 0))), (7, .int (nI 0)), (0, .ref (a 0)), (1, .int (nI r0)), (2, .int (nI s0)), (3, .int (bI t0)), (5, .int (nI (r0 + 1 + ir))), (6, .int (nI iw))]) hx hb dX5_blocked_93 hl (by decide) rfl (fun ls hl => ?_)
          refine lv_iinc (v := nI (iw + 1)) (lv' := [(6, .int (nI (iw + 1))), (4, .int (nI ((sumN ir (fun j => blkA z r0 s0 t0 (r0 + 1 + j)) + sumN iw (fun w => b2 ((tk z (r0 + 1 + ir) w && blk z r0 s0 (r0 + 1 + ir) w) && (!t0 || seesB z (r0 + 1 + ir) w)))) + 0))), (7, .int (nI 0)), (0, .ref (a 0)), (1, .int (nI r0)), (2, .int (nI s0)), (3, .int (bI t0)), (5, .int (nI (r0 + 1 + ir)))]) hx hb dX5_blocked_95 hl (k := 7) rfl (kx_inc 1) (by decide) rfl (fun ls hl => ?_)
          refine lv_goto (tgt := 22) hx hb dX5_blocked_98 (by decide) ?_
          have e22_25 : ((sumN ir (fun j => blkA z r0 s0 t0 (r0 + 1 + j)) + sumN iw (fun w => b2 ((tk z (r0 + 1 + ir) w && blk z r0 s0 (r0 + 1 + ir) w) && (!t0 || seesB z (r0 + 1 + ir) w)))) + 0 : Nat) = (sumN ir (fun j => blkA z r0 s0 t0 (r0 + 1 + j)) + sumN (iw + 1) (fun w => b2 ((tk z (r0 + 1 + ir) w && blk z r0 s0 (r0 + 1 + ir) w) && (!t0 || seesB z (r0 + 1 + ir) w)))) := by first | rfl | omega | (simp [blkd, blkA, sumN_s, b2, Int32.not_lt, Int32.not_le, c_16_4, Nat.not_le.mpr c_16_4, c_31_11, Nat.not_le.mpr c_31_11, c_42_17, c_55_22]; done) | (simp [blkd, blkA, sumN_s, b2, Int32.not_lt, Int32.not_le, c_16_4, Nat.not_le.mpr c_16_4, c_31_11, Nat.not_le.mpr c_31_11, c_42_17, c_55_22]; omega) | (revert c_16_4 c_31_11 c_42_17 c_55_22; simp +contextual [blkd, blkA, sumN_s, b2, Int32.not_lt, Int32.not_le]; done) | (revert c_16_4 c_31_11 c_42_17 c_55_22; simp +contextual [blkd, blkA, sumN_s, b2, Int32.not_lt, Int32.not_le]; omega)
          have e22_26 : (iw + 1 : Nat) = ((iw + 1)) := by first | rfl | omega | (simp [blkd, blkA, sumN_s, b2, Int32.not_lt, Int32.not_le, c_16_4, Nat.not_le.mpr c_16_4, c_31_11, Nat.not_le.mpr c_31_11, c_42_17, c_55_22]; done) | (simp [blkd, blkA, sumN_s, b2, Int32.not_lt, Int32.not_le, c_16_4, Nat.not_le.mpr c_16_4, c_31_11, Nat.not_le.mpr c_31_11, c_42_17, c_55_22]; omega) | (revert c_16_4 c_31_11 c_42_17 c_55_22; simp +contextual [blkd, blkA, sumN_s, b2, Int32.not_lt, Int32.not_le]; done) | (revert c_16_4 c_31_11 c_42_17 c_55_22; simp +contextual [blkd, blkA, sumN_s, b2, Int32.not_lt, Int32.not_le]; omega)
          have hl22_27 : lv_has ls 8 [(0, .ref (a 0)), (1, .int (nI r0)), (2, .int (nI s0)), (3, .int (bI t0)), (5, .int (nI (r0 + 1 + ir))), (4, .int (nI (sumN ir (fun j => blkA z r0 s0 t0 (r0 + 1 + j)) + sumN (iw + 1) (fun w => b2 ((tk z (r0 + 1 + ir) w && blk z r0 s0 (r0 + 1 + ir) w) && (!t0 || seesB z (r0 + 1 + ir) w)))))), (6, .int (nI (iw + 1)))] := lv_eqv (l1 := [(0, .ref (a 0)), (1, .int (nI r0)), (2, .int (nI s0)), (3, .int (bI t0)), (5, .int (nI (r0 + 1 + ir))), (4, .int (nI ((sumN ir (fun j => blkA z r0 s0 t0 (r0 + 1 + j)) + sumN iw (fun w => b2 ((tk z (r0 + 1 + ir) w && blk z r0 s0 (r0 + 1 + ir) w) && (!t0 || seesB z (r0 + 1 + ir) w)))) + 0))), (6, .int (nI (iw + 1)))]) (lv_sub hl [3, 4, 5, 6, 7, 1, 0] rfl) (lv_ce rfl (lv_ce rfl (lv_ce rfl (lv_ce rfl (lv_ce rfl (lv_ce (congrArg (fun x => Value.int (nI x)) e22_25) (lv_ce (congrArg (fun x => Value.int (nI x)) e22_26) rfl)))))))
          exact ih22 _ (by omega) (hl22_27)
        · refine lv_iconst (v := nI 1) hx hb dX5_blocked_58 (by decide) ?_
          refine lv_goto (tgt := 63) hx hb dX5_blocked_59 (by decide) ?_
          refine lv_istore (lv' := [(7, .int (nI 1)), (0, .ref (a 0)), (1, .int (nI r0)), (2, .int (nI s0)), (3, .int (bI t0)), (5, .int (nI (r0 + 1 + ir))), (4, .int (nI (sumN ir (fun j => blkA z r0 s0 t0 (r0 + 1 + j)) + sumN iw (fun w => b2 ((tk z (r0 + 1 + ir) w && blk z r0 s0 (r0 + 1 + ir) w) && (!t0 || seesB z (r0 + 1 + ir) w)))))), (6, .int (nI iw))]) hx hb dX5_blocked_63 hl (by decide) rfl (fun ls hl => ?_)
          refine lv_iload hx hb dX5_blocked_65 (lv_at hl 6 rfl) ?_
          refine lv_iload hx hb dX5_blocked_67 (lv_at hl 0 rfl) ?_
          refine kx_if_eq (tgt := 91) hx hb (by omega) dX5_blocked_69 (by decide) (fun c => absurd c (by omega)) (fun c_69_28 => ?_)
          refine lv_iload_n hx hb dX5_blocked_72 rfl (lv_at hl 4 rfl) ?_
          refine kx_if_eqb (tgt := 87) hx hb dX5_blocked_73 (by decide) (fun c_73_29 => ?_) (fun c_73_30 => ?_)
          · refine lv_iconst (v := nI 1) hx hb dX5_blocked_87 (by decide) ?_
            refine lv_goto (tgt := 92) hx hb dX5_blocked_88 (by decide) ?_
            refine kx_iadd hx hb dX5_blocked_92 ?_
            refine lv_istore (lv' := [(4, .int (nI ((sumN ir (fun j => blkA z r0 s0 t0 (r0 + 1 + j)) + sumN iw (fun w => b2 ((tk z (r0 + 1 + ir) w && blk z r0 s0 (r0 + 1 + ir) w) && (!t0 || seesB z (r0 + 1 + ir) w)))) + 1))), (7, .int (nI 1)), (0, .ref (a 0)), (1, .int (nI r0)), (2, .int (nI s0)), (3, .int (bI t0)), (5, .int (nI (r0 + 1 + ir))), (6, .int (nI iw))]) hx hb dX5_blocked_93 hl (by decide) rfl (fun ls hl => ?_)
            refine lv_iinc (v := nI (iw + 1)) (lv' := [(6, .int (nI (iw + 1))), (4, .int (nI ((sumN ir (fun j => blkA z r0 s0 t0 (r0 + 1 + j)) + sumN iw (fun w => b2 ((tk z (r0 + 1 + ir) w && blk z r0 s0 (r0 + 1 + ir) w) && (!t0 || seesB z (r0 + 1 + ir) w)))) + 1))), (7, .int (nI 1)), (0, .ref (a 0)), (1, .int (nI r0)), (2, .int (nI s0)), (3, .int (bI t0)), (5, .int (nI (r0 + 1 + ir)))]) hx hb dX5_blocked_95 hl (k := 7) rfl (kx_inc 1) (by decide) rfl (fun ls hl => ?_)
            refine lv_goto (tgt := 22) hx hb dX5_blocked_98 (by decide) ?_
            have e22_31 : ((sumN ir (fun j => blkA z r0 s0 t0 (r0 + 1 + j)) + sumN iw (fun w => b2 ((tk z (r0 + 1 + ir) w && blk z r0 s0 (r0 + 1 + ir) w) && (!t0 || seesB z (r0 + 1 + ir) w)))) + 1 : Nat) = (sumN ir (fun j => blkA z r0 s0 t0 (r0 + 1 + j)) + sumN (iw + 1) (fun w => b2 ((tk z (r0 + 1 + ir) w && blk z r0 s0 (r0 + 1 + ir) w) && (!t0 || seesB z (r0 + 1 + ir) w)))) := by first | rfl | omega | (simp [blkd, blkA, sumN_s, b2, Int32.not_lt, Int32.not_le, c_16_4, Nat.not_le.mpr c_16_4, c_31_11, Nat.not_le.mpr c_31_11, c_42_17, c_55_23, c_73_29]; done) | (simp [blkd, blkA, sumN_s, b2, Int32.not_lt, Int32.not_le, c_16_4, Nat.not_le.mpr c_16_4, c_31_11, Nat.not_le.mpr c_31_11, c_42_17, c_55_23, c_73_29]; omega) | (revert c_16_4 c_31_11 c_42_17 c_55_23 c_73_29; simp +contextual [blkd, blkA, sumN_s, b2, Int32.not_lt, Int32.not_le]; done) | (revert c_16_4 c_31_11 c_42_17 c_55_23 c_73_29; simp +contextual [blkd, blkA, sumN_s, b2, Int32.not_lt, Int32.not_le]; omega)
            have e22_32 : (iw + 1 : Nat) = ((iw + 1)) := by first | rfl | omega | (simp [blkd, blkA, sumN_s, b2, Int32.not_lt, Int32.not_le, c_16_4, Nat.not_le.mpr c_16_4, c_31_11, Nat.not_le.mpr c_31_11, c_42_17, c_55_23, c_73_29]; done) | (simp [blkd, blkA, sumN_s, b2, Int32.not_lt, Int32.not_le, c_16_4, Nat.not_le.mpr c_16_4, c_31_11, Nat.not_le.mpr c_31_11, c_42_17, c_55_23, c_73_29]; omega) | (revert c_16_4 c_31_11 c_42_17 c_55_23 c_73_29; simp +contextual [blkd, blkA, sumN_s, b2, Int32.not_lt, Int32.not_le]; done) | (revert c_16_4 c_31_11 c_42_17 c_55_23 c_73_29; simp +contextual [blkd, blkA, sumN_s, b2, Int32.not_lt, Int32.not_le]; omega)
            have hl22_33 : lv_has ls 8 [(0, .ref (a 0)), (1, .int (nI r0)), (2, .int (nI s0)), (3, .int (bI t0)), (5, .int (nI (r0 + 1 + ir))), (4, .int (nI (sumN ir (fun j => blkA z r0 s0 t0 (r0 + 1 + j)) + sumN (iw + 1) (fun w => b2 ((tk z (r0 + 1 + ir) w && blk z r0 s0 (r0 + 1 + ir) w) && (!t0 || seesB z (r0 + 1 + ir) w)))))), (6, .int (nI (iw + 1)))] := lv_eqv (l1 := [(0, .ref (a 0)), (1, .int (nI r0)), (2, .int (nI s0)), (3, .int (bI t0)), (5, .int (nI (r0 + 1 + ir))), (4, .int (nI ((sumN ir (fun j => blkA z r0 s0 t0 (r0 + 1 + j)) + sumN iw (fun w => b2 ((tk z (r0 + 1 + ir) w && blk z r0 s0 (r0 + 1 + ir) w) && (!t0 || seesB z (r0 + 1 + ir) w)))) + 1))), (6, .int (nI (iw + 1)))]) (lv_sub hl [3, 4, 5, 6, 7, 1, 0] rfl) (lv_ce rfl (lv_ce rfl (lv_ce rfl (lv_ce rfl (lv_ce rfl (lv_ce (congrArg (fun x => Value.int (nI x)) e22_31) (lv_ce (congrArg (fun x => Value.int (nI x)) e22_32) rfl)))))))
            exact ih22 _ (by omega) (hl22_33)
          · refine lv_aload_n hx hb dX5_blocked_76 rfl (lv_at hl 1 rfl) ?_
            refine lv_iload hx hb dX5_blocked_77 (lv_at hl 5 rfl) ?_
            refine lv_iload hx hb dX5_blocked_79 (lv_at hl 7 rfl) ?_
            refine kr_V (As := [.int (nI (r0 + 1 + ir)), .int (nI iw)]) (rest := [.int (nI (sumN ir (fun j => blkA z r0 s0 t0 (r0 + 1 + j)) + sumN iw (fun w => b2 ((tk z (r0 + 1 + ir) w && blk z r0 s0 (r0 + 1 + ir) w) && (!t0 || seesB z (r0 + 1 + ir) w)))))]) (C := RX5) (own := RX5) ⟨hx, hb, hml, hown, hts⟩ (c_X5_sees l D cI cC cH cL a z zh tx pa wy st le th rd nu pt za (r0 + 1 + ir) iw (by first | assumption | omega) (by first | assumption | omega)) (cwV 2 hts gX5_blocked_X5_sees rfl rfl rfl k_X5_sees ⟨Nat.le_of_ble_eq_true rfl, Nat.le_of_ble_eq_true rfl⟩) hP hK (va_recv (q := (RX5, TX5, 12)) hK hP (ci := 5) (q0 := 0) rfl rfl) rfl hl.1 rfl (Nat.le_of_ble_eq_true rfl) dX5_blocked_81 ⟨Nat.le_of_ble_eq_true rfl, Nat.le_of_ble_eq_true rfl⟩ ?_
            refine kx_if_eqb (tgt := 91) hx hb dX5_blocked_84 (by decide) (fun c_84_34 => ?_) (fun c_84_35 => ?_)
            · refine lv_iconst (v := nI 0) hx hb dX5_blocked_91 (by decide) ?_
              refine kx_iadd hx hb dX5_blocked_92 ?_
              refine lv_istore (lv' := [(4, .int (nI ((sumN ir (fun j => blkA z r0 s0 t0 (r0 + 1 + j)) + sumN iw (fun w => b2 ((tk z (r0 + 1 + ir) w && blk z r0 s0 (r0 + 1 + ir) w) && (!t0 || seesB z (r0 + 1 + ir) w)))) + 0))), (7, .int (nI 1)), (0, .ref (a 0)), (1, .int (nI r0)), (2, .int (nI s0)), (3, .int (bI t0)), (5, .int (nI (r0 + 1 + ir))), (6, .int (nI iw))]) hx hb dX5_blocked_93 hl (by decide) rfl (fun ls hl => ?_)
              refine lv_iinc (v := nI (iw + 1)) (lv' := [(6, .int (nI (iw + 1))), (4, .int (nI ((sumN ir (fun j => blkA z r0 s0 t0 (r0 + 1 + j)) + sumN iw (fun w => b2 ((tk z (r0 + 1 + ir) w && blk z r0 s0 (r0 + 1 + ir) w) && (!t0 || seesB z (r0 + 1 + ir) w)))) + 0))), (7, .int (nI 1)), (0, .ref (a 0)), (1, .int (nI r0)), (2, .int (nI s0)), (3, .int (bI t0)), (5, .int (nI (r0 + 1 + ir)))]) hx hb dX5_blocked_95 hl (k := 7) rfl (kx_inc 1) (by decide) rfl (fun ls hl => ?_)
              refine lv_goto (tgt := 22) hx hb dX5_blocked_98 (by decide) ?_
              have e22_36 : ((sumN ir (fun j => blkA z r0 s0 t0 (r0 + 1 + j)) + sumN iw (fun w => b2 ((tk z (r0 + 1 + ir) w && blk z r0 s0 (r0 + 1 + ir) w) && (!t0 || seesB z (r0 + 1 + ir) w)))) + 0 : Nat) = (sumN ir (fun j => blkA z r0 s0 t0 (r0 + 1 + j)) + sumN (iw + 1) (fun w => b2 ((tk z (r0 + 1 + ir) w && blk z r0 s0 (r0 + 1 + ir) w) && (!t0 || seesB z (r0 + 1 + ir) w)))) := by first | rfl | omega | (simp [blkd, blkA, sumN_s, b2, Int32.not_lt, Int32.not_le, c_16_4, Nat.not_le.mpr c_16_4, c_31_11, Nat.not_le.mpr c_31_11, c_42_17, c_55_23, c_73_30, c_84_34]; done) | (simp [blkd, blkA, sumN_s, b2, Int32.not_lt, Int32.not_le, c_16_4, Nat.not_le.mpr c_16_4, c_31_11, Nat.not_le.mpr c_31_11, c_42_17, c_55_23, c_73_30, c_84_34]; omega) | (revert c_16_4 c_31_11 c_42_17 c_55_23 c_73_30 c_84_34; simp +contextual [blkd, blkA, sumN_s, b2, Int32.not_lt, Int32.not_le]; done) | (revert c_16_4 c_31_11 c_42_17 c_55_23 c_73_30 c_84_34; simp +contextual [blkd, blkA, sumN_s, b2, Int32.not_lt, Int32.not_le]; omega)
              have e22_37 : (iw + 1 : Nat) = ((iw + 1)) := by first | rfl | omega | (simp [blkd, blkA, sumN_s, b2, Int32.not_lt, Int32.not_le, c_16_4, Nat.not_le.mpr c_16_4, c_31_11, Nat.not_le.mpr c_31_11, c_42_17, c_55_23, c_73_30, c_84_34]; done) | (simp [blkd, blkA, sumN_s, b2, Int32.not_lt, Int32.not_le, c_16_4, Nat.not_le.mpr c_16_4, c_31_11, Nat.not_le.mpr c_31_11, c_42_17, c_55_23, c_73_30, c_84_34]; omega) | (revert c_16_4 c_31_11 c_42_17 c_55_23 c_73_30 c_84_34; simp +contextual [blkd, blkA, sumN_s, b2, Int32.not_lt, Int32.not_le]; done) | (revert c_16_4 c_31_11 c_42_17 c_55_23 c_73_30 c_84_34; simp +contextual [blkd, blkA, sumN_s, b2, Int32.not_lt, Int32.not_le]; omega)
              have hl22_38 : lv_has ls 8 [(0, .ref (a 0)), (1, .int (nI r0)), (2, .int (nI s0)), (3, .int (bI t0)), (5, .int (nI (r0 + 1 + ir))), (4, .int (nI (sumN ir (fun j => blkA z r0 s0 t0 (r0 + 1 + j)) + sumN (iw + 1) (fun w => b2 ((tk z (r0 + 1 + ir) w && blk z r0 s0 (r0 + 1 + ir) w) && (!t0 || seesB z (r0 + 1 + ir) w)))))), (6, .int (nI (iw + 1)))] := lv_eqv (l1 := [(0, .ref (a 0)), (1, .int (nI r0)), (2, .int (nI s0)), (3, .int (bI t0)), (5, .int (nI (r0 + 1 + ir))), (4, .int (nI ((sumN ir (fun j => blkA z r0 s0 t0 (r0 + 1 + j)) + sumN iw (fun w => b2 ((tk z (r0 + 1 + ir) w && blk z r0 s0 (r0 + 1 + ir) w) && (!t0 || seesB z (r0 + 1 + ir) w)))) + 0))), (6, .int (nI (iw + 1)))]) (lv_sub hl [3, 4, 5, 6, 7, 1, 0] rfl) (lv_ce rfl (lv_ce rfl (lv_ce rfl (lv_ce rfl (lv_ce rfl (lv_ce (congrArg (fun x => Value.int (nI x)) e22_36) (lv_ce (congrArg (fun x => Value.int (nI x)) e22_37) rfl)))))))
              exact ih22 _ (by omega) (hl22_38)
            · refine lv_iconst (v := nI 1) hx hb dX5_blocked_87 (by decide) ?_
              refine lv_goto (tgt := 92) hx hb dX5_blocked_88 (by decide) ?_
              refine kx_iadd hx hb dX5_blocked_92 ?_
              refine lv_istore (lv' := [(4, .int (nI ((sumN ir (fun j => blkA z r0 s0 t0 (r0 + 1 + j)) + sumN iw (fun w => b2 ((tk z (r0 + 1 + ir) w && blk z r0 s0 (r0 + 1 + ir) w) && (!t0 || seesB z (r0 + 1 + ir) w)))) + 1))), (7, .int (nI 1)), (0, .ref (a 0)), (1, .int (nI r0)), (2, .int (nI s0)), (3, .int (bI t0)), (5, .int (nI (r0 + 1 + ir))), (6, .int (nI iw))]) hx hb dX5_blocked_93 hl (by decide) rfl (fun ls hl => ?_)
              refine lv_iinc (v := nI (iw + 1)) (lv' := [(6, .int (nI (iw + 1))), (4, .int (nI ((sumN ir (fun j => blkA z r0 s0 t0 (r0 + 1 + j)) + sumN iw (fun w => b2 ((tk z (r0 + 1 + ir) w && blk z r0 s0 (r0 + 1 + ir) w) && (!t0 || seesB z (r0 + 1 + ir) w)))) + 1))), (7, .int (nI 1)), (0, .ref (a 0)), (1, .int (nI r0)), (2, .int (nI s0)), (3, .int (bI t0)), (5, .int (nI (r0 + 1 + ir)))]) hx hb dX5_blocked_95 hl (k := 7) rfl (kx_inc 1) (by decide) rfl (fun ls hl => ?_)
              refine lv_goto (tgt := 22) hx hb dX5_blocked_98 (by decide) ?_
              have e22_39 : ((sumN ir (fun j => blkA z r0 s0 t0 (r0 + 1 + j)) + sumN iw (fun w => b2 ((tk z (r0 + 1 + ir) w && blk z r0 s0 (r0 + 1 + ir) w) && (!t0 || seesB z (r0 + 1 + ir) w)))) + 1 : Nat) = (sumN ir (fun j => blkA z r0 s0 t0 (r0 + 1 + j)) + sumN (iw + 1) (fun w => b2 ((tk z (r0 + 1 + ir) w && blk z r0 s0 (r0 + 1 + ir) w) && (!t0 || seesB z (r0 + 1 + ir) w)))) := by first | rfl | omega | (simp [blkd, blkA, sumN_s, b2, Int32.not_lt, Int32.not_le, c_16_4, Nat.not_le.mpr c_16_4, c_31_11, Nat.not_le.mpr c_31_11, c_42_17, c_55_23, c_73_30, c_84_35]; done) | (simp [blkd, blkA, sumN_s, b2, Int32.not_lt, Int32.not_le, c_16_4, Nat.not_le.mpr c_16_4, c_31_11, Nat.not_le.mpr c_31_11, c_42_17, c_55_23, c_73_30, c_84_35]; omega) | (revert c_16_4 c_31_11 c_42_17 c_55_23 c_73_30 c_84_35; simp +contextual [blkd, blkA, sumN_s, b2, Int32.not_lt, Int32.not_le]; done) | (revert c_16_4 c_31_11 c_42_17 c_55_23 c_73_30 c_84_35; simp +contextual [blkd, blkA, sumN_s, b2, Int32.not_lt, Int32.not_le]; omega)
              have e22_40 : (iw + 1 : Nat) = ((iw + 1)) := by first | rfl | omega | (simp [blkd, blkA, sumN_s, b2, Int32.not_lt, Int32.not_le, c_16_4, Nat.not_le.mpr c_16_4, c_31_11, Nat.not_le.mpr c_31_11, c_42_17, c_55_23, c_73_30, c_84_35]; done) | (simp [blkd, blkA, sumN_s, b2, Int32.not_lt, Int32.not_le, c_16_4, Nat.not_le.mpr c_16_4, c_31_11, Nat.not_le.mpr c_31_11, c_42_17, c_55_23, c_73_30, c_84_35]; omega) | (revert c_16_4 c_31_11 c_42_17 c_55_23 c_73_30 c_84_35; simp +contextual [blkd, blkA, sumN_s, b2, Int32.not_lt, Int32.not_le]; done) | (revert c_16_4 c_31_11 c_42_17 c_55_23 c_73_30 c_84_35; simp +contextual [blkd, blkA, sumN_s, b2, Int32.not_lt, Int32.not_le]; omega)
              have hl22_41 : lv_has ls 8 [(0, .ref (a 0)), (1, .int (nI r0)), (2, .int (nI s0)), (3, .int (bI t0)), (5, .int (nI (r0 + 1 + ir))), (4, .int (nI (sumN ir (fun j => blkA z r0 s0 t0 (r0 + 1 + j)) + sumN (iw + 1) (fun w => b2 ((tk z (r0 + 1 + ir) w && blk z r0 s0 (r0 + 1 + ir) w) && (!t0 || seesB z (r0 + 1 + ir) w)))))), (6, .int (nI (iw + 1)))] := lv_eqv (l1 := [(0, .ref (a 0)), (1, .int (nI r0)), (2, .int (nI s0)), (3, .int (bI t0)), (5, .int (nI (r0 + 1 + ir))), (4, .int (nI ((sumN ir (fun j => blkA z r0 s0 t0 (r0 + 1 + j)) + sumN iw (fun w => b2 ((tk z (r0 + 1 + ir) w && blk z r0 s0 (r0 + 1 + ir) w) && (!t0 || seesB z (r0 + 1 + ir) w)))) + 1))), (6, .int (nI (iw + 1)))]) (lv_sub hl [3, 4, 5, 6, 7, 1, 0] rfl) (lv_ce rfl (lv_ce rfl (lv_ce rfl (lv_ce rfl (lv_ce rfl (lv_ce (congrArg (fun x => Value.int (nI x)) e22_39) (lv_ce (congrArg (fun x => Value.int (nI x)) e22_40) rfl)))))))
              exact ih22 _ (by omega) (hl22_41)
set_option maxRecDepth 20000 in
theorem iX5_isAhead_5 : ∀ w ∈ wsX50, w ∈ wsX5_isAhead := by decide +kernel
set_option maxHeartbeats 4000000 in
set_option maxRecDepth 100000 in
theorem c_X5_isAhead (l : Launch) (D : va_G) (cI cC cH cL : ClassId) (a : Nat → Nat) (z zh tx pa wy : ZZ) (st le th rd nu pt : Int32) (za : Int64) (r0 : Nat) (s0 : Nat) (r2 : Nat) (s2 : Nat) (hw : WF z) (hr : r0 < nR z) (hr2 : r2 < nR z) (hs : s0 < 12) (hs2 : s2 < 12) : Met l yX5_isAhead wsX5_isAhead ({ frames := 2, cells := 0, slots := 0, locals := 44 }) (kp [.ref (a 0), .int (nI r0), .int (nI s0), .int (nI r2), .int (nI s2)] D (MW a cI z st zh le tx th pa rd nu pt wy za) (kT cI cC cH cL)) (kr (.returned (some (.int (bI (isAheadB z wy r0 s0 r2 s2)))))) 0 0 (fun _ => False) := by
  refine Met.ofW (cc := cX5_isAhead) (maxL := 7) (ret := (some .boolean)) (by decide) rfl ?_
  intro p e s m args below meth c s₁ B hml hv
  obtain ⟨rfl, hP, hK⟩ := hv
  have hx := B.exec
  have hb := B.bytes
  have hrt := B.returns
  have hts := atoms_spec (ws := wsX5_isAhead) B.pre
  have hown : s.vm.findClass RX5 = some m.cls := findClass_of_methodNamed B.named
  have hlocks := B.notSynchronized
  have hl := lv_entry ([.ref (a 0), .int (nI r0), .int (nI s0), .int (nI r2), .int (nI s2)]) (n := 7) (Nat.le_of_ble_eq_true rfl)
  rw [lg_entry_eq]
  generalize (lg_sl ([.ref (a 0), .int (nI r0), .int (nI s0), .int (nI r2), .int (nI s2)]) ++ List.replicate (7 - (lg_sl ([.ref (a 0), .int (nI r0), .int (nI s0), .int (nI r2), .int (nI s2)])).length) Slot.unset).toArray = ls at hl ⊢
  have hl : lv_has ls 7 [(0, .ref (a 0)), (1, .int (nI r0)), (2, .int (nI s0)), (3, .int (nI r2)), (4, .int (nI s2))] := hl
  have hR10 := wf_R10 hw
  have hC4 := wf_C4 hw
  refine lv_aload_n hx hb dX5_isAhead_0 rfl (lv_at hl 0 rfl) ?_
  refine va_get (D := D) (ci := 5) (v := .ref (a 5)) (C := RX5) (T := TX5) (N := 12) hx hb hts iX5_isAhead_5 hown hK hP 0 rfl rfl 10 (by decide) (hts (.fieldLink RX5 22 "HallSightsModel" "ways" "[I") (List.mem_of_getElem? (i := 1) rfl)) (fun _ h9 => h9) rfl dX5_isAhead_1 ?_
  refine lv_bipush (v := nI 12) hx hb dX5_isAhead_4 (by decide) ?_
  refine lv_iload_n hx hb dX5_isAhead_6 rfl (lv_at hl 3 rfl) ?_
  refine kx_imul hx hb dX5_isAhead_7 ?_
  refine lv_iload hx hb dX5_isAhead_8 (lv_at hl 4 rfl) ?_
  refine kx_iadd hx hb dX5_isAhead_10 ?_
  refine kx_iald hx hb hK hP 5 0 rfl rfl (by omega) (by decide) dX5_isAhead_11 ?_
  refine lv_aload_n hx hb dX5_isAhead_12 rfl (lv_at hl 0 rfl) ?_
  refine va_get (D := D) (ci := 5) (v := .ref (a 5)) (C := RX5) (T := TX5) (N := 12) hx hb hts iX5_isAhead_5 hown hK hP 0 rfl rfl 10 (by decide) (hts (.fieldLink RX5 22 "HallSightsModel" "ways" "[I") (List.mem_of_getElem? (i := 1) rfl)) (fun _ h9 => h9) rfl dX5_isAhead_13 ?_
  refine lv_bipush (v := nI 12) hx hb dX5_isAhead_16 (by decide) ?_
  refine lv_iload_n hx hb dX5_isAhead_18 rfl (lv_at hl 1 rfl) ?_
  refine kx_imul hx hb dX5_isAhead_19 ?_
  refine lv_iload_n hx hb dX5_isAhead_20 rfl (lv_at hl 2 rfl) ?_
  refine kx_iadd hx hb dX5_isAhead_21 ?_
  refine kx_iald hx hb hK hP 5 0 rfl rfl (by omega) (by decide) dX5_isAhead_22 ?_
  refine lv_isub hx hb dX5_isAhead_23 ?_
  refine lv_istore (lv' := [(5, .int ((wy ((12 * r2) + s2)) - (wy ((12 * r0) + s0)))), (0, .ref (a 0)), (1, .int (nI r0)), (2, .int (nI s0)), (3, .int (nI r2)), (4, .int (nI s2))]) hx hb dX5_isAhead_24 hl (by decide) rfl (fun ls hl => ?_)
  refine lv_iload hx hb dX5_isAhead_26 (lv_at hl 0 rfl) ?_
  refine lv_if_ne (tgt := 36) hx hb dX5_isAhead_28 (by decide) (fun c_28_0 => ?_) (fun c_28_1 => ?_)
  · have c_28_0 : ¬ (((wy ((12 * r2) + s2)) - (wy ((12 * r0) + s0))) : Int32) = 0 := c_28_0
    refine lv_iload hx hb dX5_isAhead_36 (lv_at hl 0 rfl) ?_
    refine lv_if_gt (tgt := 51) hx hb dX5_isAhead_38 (by decide) (fun c_38_2 => ?_) (fun c_38_3 => ?_)
    · have c_38_2 : (0 : Int32) < ((wy ((12 * r2) + s2)) - (wy ((12 * r0) + s0))) := c_38_2
      refine lv_iconst (v := nI 1) hx hb dX5_isAhead_51 (by decide) ?_
      refine lv_goto (tgt := 56) hx hb dX5_isAhead_52 (by decide) ?_
      have e_4 : (true : Bool) = (isAheadB z wy r0 s0 r2 s2) := by first | rfl | omega | (simp [isAheadB, Int32.not_lt, Int32.not_le, c_28_0, c_38_2, Int32.not_le.mpr c_38_2]; done) | (simp [isAheadB, Int32.not_lt, Int32.not_le, c_28_0, c_38_2, Int32.not_le.mpr c_38_2]; omega) | (revert c_28_0 c_38_2; simp +contextual [isAheadB, Int32.not_lt, Int32.not_le]; done) | (revert c_28_0 c_38_2; simp +contextual [isAheadB, Int32.not_lt, Int32.not_le]; omega)
      exact kr_zret hx hb hrt hlocks (congrArg bI e_4) rfl dX5_isAhead_56
    · have c_38_3 : ¬ (0 : Int32) < ((wy ((12 * r2) + s2)) - (wy ((12 * r0) + s0))) := c_38_3
      refine lv_iload hx hb dX5_isAhead_41 (lv_at hl 0 rfl) ?_
      refine lv_if_ne (tgt := 55) hx hb dX5_isAhead_43 (by decide) (fun c_43_5 => ?_) (fun c => absurd c c_28_0)
      refine lv_iconst (v := nI 0) hx hb dX5_isAhead_55 (by decide) ?_
      have e_6 : (false : Bool) = (isAheadB z wy r0 s0 r2 s2) := by first | rfl | omega | (simp [isAheadB, Int32.not_lt, Int32.not_le, c_28_0, c_38_3, Int32.not_lt.mp c_38_3]; done) | (simp [isAheadB, Int32.not_lt, Int32.not_le, c_28_0, c_38_3, Int32.not_lt.mp c_38_3]; omega) | (revert c_28_0 c_38_3; simp +contextual [isAheadB, Int32.not_lt, Int32.not_le]; done) | (revert c_28_0 c_38_3; simp +contextual [isAheadB, Int32.not_lt, Int32.not_le]; omega)
      exact kr_zret hx hb hrt hlocks (congrArg bI e_6) rfl dX5_isAhead_56
  · have c_28_1 : (((wy ((12 * r2) + s2)) - (wy ((12 * r0) + s0))) : Int32) = 0 := c_28_1
    refine lv_iload_n hx hb dX5_isAhead_31 rfl (lv_at hl 2 rfl) ?_
    refine lv_iload_n hx hb dX5_isAhead_32 rfl (lv_at hl 4 rfl) ?_
    refine kx_icmp_eq (tgt := 57) hx hb (by omega) (by omega) dX5_isAhead_33 (by decide) (fun c_33_7 => ?_) (fun c_33_8 => ?_)
    · refine lv_aload_n hx hb dX5_isAhead_57 rfl (lv_at hl 1 rfl) ?_
      refine lv_iload_n hx hb dX5_isAhead_58 rfl (lv_at hl 2 rfl) ?_
      refine lv_iload hx hb dX5_isAhead_59 (lv_at hl 5 rfl) ?_
      refine kr_V (As := [.int (nI r0), .int (nI s2)]) (rest := []) (C := RX5) (own := RX5) ⟨hx, hb, hml, hown, hts⟩ (c_X5_sideOf l D cI cC cH cL a z zh tx pa wy st le th rd nu pt za r0 s2 (by first | assumption | omega) (by first | assumption | omega)) (cwV 2 hts gX5_isAhead_X5_sideOf rfl rfl rfl k_X5_sideOf ⟨Nat.le_of_ble_eq_true rfl, Nat.le_of_ble_eq_true rfl⟩) hP hK (va_recv (q := (RX5, TX5, 12)) hK hP (ci := 5) (q0 := 0) rfl rfl) rfl hl.1 rfl (Nat.le_of_ble_eq_true rfl) dX5_isAhead_61 ⟨Nat.le_of_ble_eq_true rfl, Nat.le_of_ble_eq_true rfl⟩ ?_
      refine kr_S (As := [.int (side z r0 s2)]) (rest := []) (own := RX5) ⟨hx, hb, hml, hown, hts⟩ (c_X5_size l D cI cC cH cL  (side z r0 s2) ) (va_cwS 1 hts gX5_isAhead_X5_size rfl rfl rfl k_X5_sizeS ⟨Nat.le_of_ble_eq_true rfl, Nat.le_of_ble_eq_true rfl⟩) (hP.sub (ws' := []) [] rfl) hK rfl hl.1 rfl (Nat.le_of_ble_eq_true rfl) dX5_isAhead_64 ⟨Nat.le_of_ble_eq_true rfl, Nat.le_of_ble_eq_true rfl⟩ ?_
      refine lv_aload_n hx hb dX5_isAhead_67 rfl (lv_at hl 1 rfl) ?_
      refine lv_iload_n hx hb dX5_isAhead_68 rfl (lv_at hl 2 rfl) ?_
      refine lv_iload_n hx hb dX5_isAhead_69 rfl (lv_at hl 3 rfl) ?_
      refine kr_V (As := [.int (nI r0), .int (nI s0)]) (rest := [.int (absI (side z r0 s2))]) (C := RX5) (own := RX5) ⟨hx, hb, hml, hown, hts⟩ (c_X5_sideOf l D cI cC cH cL a z zh tx pa wy st le th rd nu pt za r0 s0 (by first | assumption | omega) (by first | assumption | omega)) (cwV 2 hts gX5_isAhead_X5_sideOf rfl rfl rfl k_X5_sideOf ⟨Nat.le_of_ble_eq_true rfl, Nat.le_of_ble_eq_true rfl⟩) hP hK (va_recv (q := (RX5, TX5, 12)) hK hP (ci := 5) (q0 := 0) rfl rfl) rfl hl.1 rfl (Nat.le_of_ble_eq_true rfl) dX5_isAhead_70 ⟨Nat.le_of_ble_eq_true rfl, Nat.le_of_ble_eq_true rfl⟩ ?_
      refine kr_S (As := [.int (side z r0 s0)]) (rest := [.int (absI (side z r0 s2))]) (own := RX5) ⟨hx, hb, hml, hown, hts⟩ (c_X5_size l D cI cC cH cL  (side z r0 s0) ) (va_cwS 1 hts gX5_isAhead_X5_size rfl rfl rfl k_X5_sizeS ⟨Nat.le_of_ble_eq_true rfl, Nat.le_of_ble_eq_true rfl⟩) (hP.sub (ws' := []) [] rfl) hK rfl hl.1 rfl (Nat.le_of_ble_eq_true rfl) dX5_isAhead_73 ⟨Nat.le_of_ble_eq_true rfl, Nat.le_of_ble_eq_true rfl⟩ ?_
      refine lv_isub hx hb dX5_isAhead_76 ?_
      refine lv_istore (lv' := [(6, .int ((absI (side z r0 s2)) - (absI (side z r0 s0)))), (5, .int ((wy ((12 * r2) + s2)) - (wy ((12 * r0) + s0)))), (0, .ref (a 0)), (1, .int (nI r0)), (2, .int (nI s0)), (3, .int (nI r2)), (4, .int (nI s2))]) hx hb dX5_isAhead_77 hl (by decide) rfl (fun ls hl => ?_)
      refine lv_iload hx hb dX5_isAhead_79 (lv_at hl 0 rfl) ?_
      refine lv_if_gt (tgt := 95) hx hb dX5_isAhead_81 (by decide) (fun c_81_9 => ?_) (fun c_81_10 => ?_)
      · have c_81_9 : (0 : Int32) < ((absI (side z r0 s2)) - (absI (side z r0 s0))) := c_81_9
        refine lv_iconst (v := nI 1) hx hb dX5_isAhead_95 (by decide) ?_
        refine lv_goto (tgt := 100) hx hb dX5_isAhead_96 (by decide) ?_
        have e_11 : (true : Bool) = (isAheadB z wy r0 s0 r2 s2) := by first | rfl | omega | (simp [isAheadB, Int32.not_lt, Int32.not_le, c_28_1, c_33_7, c_81_9, Int32.not_le.mpr c_81_9]; done) | (simp [isAheadB, Int32.not_lt, Int32.not_le, c_28_1, c_33_7, c_81_9, Int32.not_le.mpr c_81_9]; omega) | (revert c_28_1 c_33_7 c_81_9; simp +contextual [isAheadB, Int32.not_lt, Int32.not_le]; done) | (revert c_28_1 c_33_7 c_81_9; simp +contextual [isAheadB, Int32.not_lt, Int32.not_le]; omega) | (subst c_33_7; simp [isAheadB, Int32.not_lt, Int32.not_le, c_28_1, c_81_9, Int32.not_le.mpr c_81_9]; done)
        exact kr_zret hx hb hrt hlocks (congrArg bI e_11) rfl dX5_isAhead_100
      · have c_81_10 : ¬ (0 : Int32) < ((absI (side z r0 s2)) - (absI (side z r0 s0))) := c_81_10
        refine lv_iload hx hb dX5_isAhead_84 (lv_at hl 0 rfl) ?_
        refine lv_if_ne (tgt := 99) hx hb dX5_isAhead_86 (by decide) (fun c_86_12 => ?_) (fun c_86_13 => ?_)
        · have c_86_12 : ¬ (((absI (side z r0 s2)) - (absI (side z r0 s0))) : Int32) = 0 := c_86_12
          refine lv_iconst (v := nI 0) hx hb dX5_isAhead_99 (by decide) ?_
          have e_14 : (false : Bool) = (isAheadB z wy r0 s0 r2 s2) := by first | rfl | omega | (simp [isAheadB, Int32.not_lt, Int32.not_le, c_28_1, c_33_7, c_81_10, Int32.not_lt.mp c_81_10, c_86_12]; done) | (simp [isAheadB, Int32.not_lt, Int32.not_le, c_28_1, c_33_7, c_81_10, Int32.not_lt.mp c_81_10, c_86_12]; omega) | (revert c_28_1 c_33_7 c_81_10 c_86_12; simp +contextual [isAheadB, Int32.not_lt, Int32.not_le]; done) | (revert c_28_1 c_33_7 c_81_10 c_86_12; simp +contextual [isAheadB, Int32.not_lt, Int32.not_le]; omega) | (subst c_33_7; simp [isAheadB, Int32.not_lt, Int32.not_le, c_28_1, c_81_10, Int32.not_lt.mp c_81_10, c_86_12]; done)
          exact kr_zret hx hb hrt hlocks (congrArg bI e_14) rfl dX5_isAhead_100
        · have c_86_13 : (((absI (side z r0 s2)) - (absI (side z r0 s0))) : Int32) = 0 := c_86_13
          refine lv_iload_n hx hb dX5_isAhead_89 rfl (lv_at hl 4 rfl) ?_
          refine lv_iload hx hb dX5_isAhead_90 (lv_at hl 6 rfl) ?_
          refine kx_icmp_ge (tgt := 99) hx hb (by omega) (by omega) dX5_isAhead_92 (by decide) (fun c_92_15 => ?_) (fun c_92_16 => ?_)
          · refine lv_iconst (v := nI 0) hx hb dX5_isAhead_99 (by decide) ?_
            have e_17 : (false : Bool) = (isAheadB z wy r0 s0 r2 s2) := by first | rfl | omega | (simp [isAheadB, Int32.not_lt, Int32.not_le, c_28_1, c_33_7, c_81_10, Int32.not_lt.mp c_81_10, c_86_13, c_92_15, Nat.not_lt.mpr c_92_15]; done) | (simp [isAheadB, Int32.not_lt, Int32.not_le, c_28_1, c_33_7, c_81_10, Int32.not_lt.mp c_81_10, c_86_13, c_92_15, Nat.not_lt.mpr c_92_15]; omega) | (revert c_28_1 c_33_7 c_81_10 c_86_13 c_92_15; simp +contextual [isAheadB, Int32.not_lt, Int32.not_le]; done) | (revert c_28_1 c_33_7 c_81_10 c_86_13 c_92_15; simp +contextual [isAheadB, Int32.not_lt, Int32.not_le]; omega) | (subst c_33_7; simp [isAheadB, Int32.not_lt, Int32.not_le, c_28_1, c_81_10, Int32.not_lt.mp c_81_10, c_86_13, c_92_15, Nat.not_lt.mpr c_92_15]; done)
            exact kr_zret hx hb hrt hlocks (congrArg bI e_17) rfl dX5_isAhead_100
          · refine lv_iconst (v := nI 1) hx hb dX5_isAhead_95 (by decide) ?_
            refine lv_goto (tgt := 100) hx hb dX5_isAhead_96 (by decide) ?_
            have e_18 : (true : Bool) = (isAheadB z wy r0 s0 r2 s2) := by first | rfl | omega | (simp [isAheadB, Int32.not_lt, Int32.not_le, c_28_1, c_33_7, c_81_10, Int32.not_lt.mp c_81_10, c_86_13, c_92_16, Nat.not_le.mpr c_92_16]; done) | (simp [isAheadB, Int32.not_lt, Int32.not_le, c_28_1, c_33_7, c_81_10, Int32.not_lt.mp c_81_10, c_86_13, c_92_16, Nat.not_le.mpr c_92_16]; omega) | (revert c_28_1 c_33_7 c_81_10 c_86_13 c_92_16; simp +contextual [isAheadB, Int32.not_lt, Int32.not_le]; done) | (revert c_28_1 c_33_7 c_81_10 c_86_13 c_92_16; simp +contextual [isAheadB, Int32.not_lt, Int32.not_le]; omega) | (subst c_33_7; simp [isAheadB, Int32.not_lt, Int32.not_le, c_28_1, c_81_10, Int32.not_lt.mp c_81_10, c_86_13, c_92_16, Nat.not_le.mpr c_92_16]; done)
            exact kr_zret hx hb hrt hlocks (congrArg bI e_18) rfl dX5_isAhead_100
    · refine lv_iload hx hb dX5_isAhead_36 (lv_at hl 0 rfl) ?_
      refine lv_if_gt (tgt := 51) hx hb dX5_isAhead_38 (by decide) (fun c_38_19 => ?_) (fun c_38_20 => ?_)
      · have c_38_19 : (0 : Int32) < ((wy ((12 * r2) + s2)) - (wy ((12 * r0) + s0))) := c_38_19
        refine lv_iconst (v := nI 1) hx hb dX5_isAhead_51 (by decide) ?_
        refine lv_goto (tgt := 56) hx hb dX5_isAhead_52 (by decide) ?_
        have e_21 : (true : Bool) = (isAheadB z wy r0 s0 r2 s2) := by first | rfl | omega | (simp [isAheadB, Int32.not_lt, Int32.not_le, c_28_1, c_33_8, c_38_19, Int32.not_le.mpr c_38_19]; done) | (simp [isAheadB, Int32.not_lt, Int32.not_le, c_28_1, c_33_8, c_38_19, Int32.not_le.mpr c_38_19]; omega) | (revert c_28_1 c_33_8 c_38_19; simp +contextual [isAheadB, Int32.not_lt, Int32.not_le]; done) | (revert c_28_1 c_33_8 c_38_19; simp +contextual [isAheadB, Int32.not_lt, Int32.not_le]; omega)
        exact kr_zret hx hb hrt hlocks (congrArg bI e_21) rfl dX5_isAhead_56
      · have c_38_20 : ¬ (0 : Int32) < ((wy ((12 * r2) + s2)) - (wy ((12 * r0) + s0))) := c_38_20
        refine lv_iload hx hb dX5_isAhead_41 (lv_at hl 0 rfl) ?_
        refine lv_if_ne (tgt := 55) hx hb dX5_isAhead_43 (by decide) (fun c => absurd c_28_1 c) (fun c_43_22 => ?_)
        refine lv_iload_n hx hb dX5_isAhead_46 rfl (lv_at hl 2 rfl) ?_
        refine lv_iload_n hx hb dX5_isAhead_47 rfl (lv_at hl 4 rfl) ?_
        refine kx_icmp_ge (tgt := 55) hx hb (by omega) (by omega) dX5_isAhead_48 (by decide) (fun c_48_23 => ?_) (fun c_48_24 => ?_)
        · refine lv_iconst (v := nI 0) hx hb dX5_isAhead_55 (by decide) ?_
          have e_25 : (false : Bool) = (isAheadB z wy r0 s0 r2 s2) := by first | rfl | omega | (simp [isAheadB, Int32.not_lt, Int32.not_le, c_28_1, c_33_8, c_38_20, Int32.not_lt.mp c_38_20, c_48_23, Nat.not_lt.mpr c_48_23]; done) | (simp [isAheadB, Int32.not_lt, Int32.not_le, c_28_1, c_33_8, c_38_20, Int32.not_lt.mp c_38_20, c_48_23, Nat.not_lt.mpr c_48_23]; omega) | (revert c_28_1 c_33_8 c_38_20 c_48_23; simp +contextual [isAheadB, Int32.not_lt, Int32.not_le]; done) | (revert c_28_1 c_33_8 c_38_20 c_48_23; simp +contextual [isAheadB, Int32.not_lt, Int32.not_le]; omega)
          exact kr_zret hx hb hrt hlocks (congrArg bI e_25) rfl dX5_isAhead_56
        · refine lv_iconst (v := nI 1) hx hb dX5_isAhead_51 (by decide) ?_
          refine lv_goto (tgt := 56) hx hb dX5_isAhead_52 (by decide) ?_
          have e_26 : (true : Bool) = (isAheadB z wy r0 s0 r2 s2) := by first | rfl | omega | (simp [isAheadB, Int32.not_lt, Int32.not_le, c_28_1, c_33_8, c_38_20, Int32.not_lt.mp c_38_20, c_48_24, Nat.not_le.mpr c_48_24]; done) | (simp [isAheadB, Int32.not_lt, Int32.not_le, c_28_1, c_33_8, c_38_20, Int32.not_lt.mp c_38_20, c_48_24, Nat.not_le.mpr c_48_24]; omega) | (revert c_28_1 c_33_8 c_38_20 c_48_24; simp +contextual [isAheadB, Int32.not_lt, Int32.not_le]; done) | (revert c_28_1 c_33_8 c_38_20 c_48_24; simp +contextual [isAheadB, Int32.not_lt, Int32.not_le]; omega)
          exact kr_zret hx hb hrt hlocks (congrArg bI e_26) rfl dX5_isAhead_56
set_option maxRecDepth 20000 in
theorem iX5_seatsAhead_5 : ∀ w ∈ wsX50, w ∈ wsX5_seatsAhead := by decide +kernel
set_option maxHeartbeats 4000000 in
set_option maxRecDepth 100000 in
theorem c_X5_seatsAhead (l : Launch) (D : va_G) (cI cC cH cL : ClassId) (a : Nat → Nat) (z zh tx pa wy : ZZ) (st le th rd nu pt : Int32) (za : Int64) (r0 : Nat) (s0 : Nat) (t0 : Bool) (hw : WF z) (hr : r0 < nR z) (hs : s0 < 12) : Met l yX5_seatsAhead wsX5_seatsAhead ({ frames := 3, cells := 0, slots := 0, locals := 70 }) (kp [.ref (a 0), .int (nI r0), .int (nI s0), .int (bI t0)] D (MW a cI z st zh le tx th pa rd nu pt wy za) (kT cI cC cH cL)) (kr (.returned (some (.int (nI (sAh z wy r0 s0 t0)))))) 0 0 (fun _ => False) := by
  refine Met.ofW (cc := cX5_seatsAhead) (maxL := 8) (ret := (some .int)) (by decide) rfl ?_
  intro p e s m args below meth c s₁ B hml hv
  obtain ⟨rfl, hP, hK⟩ := hv
  have hx := B.exec
  have hb := B.bytes
  have hrt := B.returns
  have hts := atoms_spec (ws := wsX5_seatsAhead) B.pre
  have hown : s.vm.findClass RX5 = some m.cls := findClass_of_methodNamed B.named
  have hlocks := B.notSynchronized
  have hl := lv_entry ([.ref (a 0), .int (nI r0), .int (nI s0), .int (bI t0)]) (n := 8) (Nat.le_of_ble_eq_true rfl)
  rw [lg_entry_eq]
  generalize (lg_sl ([.ref (a 0), .int (nI r0), .int (nI s0), .int (bI t0)]) ++ List.replicate (8 - (lg_sl ([.ref (a 0), .int (nI r0), .int (nI s0), .int (bI t0)])).length) Slot.unset).toArray = ls at hl ⊢
  have hl : lv_has ls 8 [(0, .ref (a 0)), (1, .int (nI r0)), (2, .int (nI s0)), (3, .int (bI t0))] := hl
  have hR10 := wf_R10 hw
  have hC4 := wf_C4 hw
  refine lv_iconst (v := nI 0) hx hb dX5_seatsAhead_0 (by decide) ?_
  refine lv_istore (lv' := [(4, .int (nI 0)), (0, .ref (a 0)), (1, .int (nI r0)), (2, .int (nI s0)), (3, .int (bI t0))]) hx hb dX5_seatsAhead_1 hl (by decide) rfl (fun ls hl => ?_)
  refine lv_iconst (v := nI 0) hx hb dX5_seatsAhead_3 (by decide) ?_
  refine lv_istore (lv' := [(5, .int (nI 0)), (4, .int (nI 0)), (0, .ref (a 0)), (1, .int (nI r0)), (2, .int (nI s0)), (3, .int (bI t0))]) hx hb dX5_seatsAhead_4 hl (by decide) rfl (fun ls hl => ?_)
  have e6_0 : (0 : Nat) = (sumN 0 (fun o => sAhR z wy r0 s0 t0 o)) := by first | rfl | omega | (simp [sAh, sAhR, sumN_s, b2, Int32.not_lt, Int32.not_le]; done) | (simp [sAh, sAhR, sumN_s, b2, Int32.not_lt, Int32.not_le]; omega)
  have hl6_1 : lv_has ls 8 [(0, .ref (a 0)), (1, .int (nI r0)), (2, .int (nI s0)), (3, .int (bI t0)), (4, .int (nI (sumN 0 (fun o => sAhR z wy r0 s0 t0 o)))), (5, .int (nI 0))] := lv_eqv (l1 := [(0, .ref (a 0)), (1, .int (nI r0)), (2, .int (nI s0)), (3, .int (bI t0)), (4, .int (nI 0)), (5, .int (nI 0))]) (lv_sub hl [2, 3, 4, 5, 1, 0] rfl) (lv_ce rfl (lv_ce rfl (lv_ce rfl (lv_ce rfl (lv_ce (congrArg (fun x => Value.int (nI x)) e6_0) (lv_ce rfl rfl))))))
  refine kx_up (fun k ls => lv_has ls 8 [(0, .ref (a 0)), (1, .int (nI r0)), (2, .int (nI s0)), (3, .int (bI t0)), (4, .int (nI (sumN k (fun o => sAhR z wy r0 s0 t0 o)))), (5, .int (nI k))]) (0) (nR z) (by omega) ls (hl6_1) ?_
  intro ir ls hirl hirh hp ih6
  have hl := hp
  refine lv_iload hx hb dX5_seatsAhead_6 (lv_at hl 5 rfl) ?_
  refine lv_aload_n hx hb dX5_seatsAhead_8 rfl (lv_at hl 0 rfl) ?_
  refine va_get (D := D) (ci := 5) (v := .ref (a 1)) (C := RX5) (T := TX5) (N := 12) hx hb hts iX5_seatsAhead_5 hown hK hP 0 rfl rfl 0 (by decide) (hts (.fieldLink RX5 7 "HallSightsModel" "z" "[I") (List.mem_of_getElem? (i := 1) rfl)) (fun _ h9 => h9) rfl dX5_seatsAhead_9 ?_
  refine lv_iconst (v := nI 3) hx hb dX5_seatsAhead_12 (by decide) ?_
  refine kx_iald hx hb hK hP 1 0 rfl rfl (by omega) (by decide) dX5_seatsAhead_13 ?_
  refine kx_top (wf_R hw) ?_
  refine kx_icmp_ge (tgt := 94) hx hb (by omega) (by omega) dX5_seatsAhead_14 (by decide) (fun c_14_2 => ?_) (fun c_14_3 => ?_)
  · have hq4 : nR z = ir := by omega
    subst hq4
    refine lv_iload hx hb dX5_seatsAhead_94 (lv_at hl 4 rfl) ?_
    have e_5 : (sumN (nR z) (fun o => sAhR z wy r0 s0 t0 o) : Nat) = (sAh z wy r0 s0 t0) := by first | rfl | omega | (simp [sAh, sAhR, sumN_s, b2, Int32.not_lt, Int32.not_le, c_14_2, Nat.not_lt.mpr c_14_2]; done) | (simp [sAh, sAhR, sumN_s, b2, Int32.not_lt, Int32.not_le, c_14_2, Nat.not_lt.mpr c_14_2]; omega) | (revert c_14_2; simp +contextual [sAh, sAhR, sumN_s, b2, Int32.not_lt, Int32.not_le]; done) | (revert c_14_2; simp +contextual [sAh, sAhR, sumN_s, b2, Int32.not_lt, Int32.not_le]; omega)
    exact kr_iret hx hb hrt hlocks (congrArg nI e_5) rfl dX5_seatsAhead_96
  · refine lv_iconst (v := nI 0) hx hb dX5_seatsAhead_17 (by decide) ?_
    refine lv_istore (lv' := [(6, .int (nI 0)), (0, .ref (a 0)), (1, .int (nI r0)), (2, .int (nI s0)), (3, .int (bI t0)), (4, .int (nI (sumN ir (fun o => sAhR z wy r0 s0 t0 o)))), (5, .int (nI ir))]) hx hb dX5_seatsAhead_18 hl (by decide) rfl (fun ls hl => ?_)
    have e20_6 : (sumN ir (fun o => sAhR z wy r0 s0 t0 o) : Nat) = (sumN ir (fun o => sAhR z wy r0 s0 t0 o) + sumN 0 (fun k => b2 ((!t0 || !tk z ir k) && isAheadB z wy ir k r0 s0))) := by first | rfl | omega | (simp [sAh, sAhR, sumN_s, b2, Int32.not_lt, Int32.not_le, c_14_3, Nat.not_le.mpr c_14_3]; done) | (simp [sAh, sAhR, sumN_s, b2, Int32.not_lt, Int32.not_le, c_14_3, Nat.not_le.mpr c_14_3]; omega) | (revert c_14_3; simp +contextual [sAh, sAhR, sumN_s, b2, Int32.not_lt, Int32.not_le]; done) | (revert c_14_3; simp +contextual [sAh, sAhR, sumN_s, b2, Int32.not_lt, Int32.not_le]; omega)
    have hl20_7 : lv_has ls 8 [(0, .ref (a 0)), (1, .int (nI r0)), (2, .int (nI s0)), (3, .int (bI t0)), (5, .int (nI ir)), (4, .int (nI (sumN ir (fun o => sAhR z wy r0 s0 t0 o) + sumN 0 (fun k => b2 ((!t0 || !tk z ir k) && isAheadB z wy ir k r0 s0))))), (6, .int (nI 0))] := lv_eqv (l1 := [(0, .ref (a 0)), (1, .int (nI r0)), (2, .int (nI s0)), (3, .int (bI t0)), (5, .int (nI ir)), (4, .int (nI (sumN ir (fun o => sAhR z wy r0 s0 t0 o)))), (6, .int (nI 0))]) (lv_sub hl [1, 2, 3, 4, 6, 5, 0] rfl) (lv_ce rfl (lv_ce rfl (lv_ce rfl (lv_ce rfl (lv_ce rfl (lv_ce (congrArg (fun x => Value.int (nI x)) e20_6) (lv_ce rfl rfl)))))))
    refine kx_up (fun k ls => lv_has ls 8 [(0, .ref (a 0)), (1, .int (nI r0)), (2, .int (nI s0)), (3, .int (bI t0)), (5, .int (nI ir)), (4, .int (nI (sumN ir (fun o => sAhR z wy r0 s0 t0 o) + sumN k (fun k => b2 ((!t0 || !tk z ir k) && isAheadB z wy ir k r0 s0))))), (6, .int (nI k))]) (0) (nS z ir) (by omega) ls (hl20_7) ?_
    intro iw ls hiwl hiwh hp ih20
    have hl := hp
    refine lv_iload hx hb dX5_seatsAhead_20 (lv_at hl 6 rfl) ?_
    refine lv_aload_n hx hb dX5_seatsAhead_22 rfl (lv_at hl 0 rfl) ?_
    refine lv_iload hx hb dX5_seatsAhead_23 (lv_at hl 4 rfl) ?_
    refine lv_iconst (v := nI 2) hx hb dX5_seatsAhead_25 (by decide) ?_
    refine kr_V (As := [.int (nI ir), .int (nI 2)]) (rest := [.int (nI iw)]) (C := RX5) (own := RX5) ⟨hx, hb, hml, hown, hts⟩ (c_X5_of l D cI cC cH cL a z zh tx pa wy st le th rd nu pt za ir 2 (by first | assumption | omega)) (cwV 2 hts gX5_seatsAhead_X5_of rfl rfl rfl k_X5_of ⟨Nat.le_of_ble_eq_true rfl, Nat.le_of_ble_eq_true rfl⟩) hP hK (va_recv (q := (RX5, TX5, 12)) hK hP (ci := 5) (q0 := 0) rfl rfl) rfl hl.1 rfl (Nat.le_of_ble_eq_true rfl) dX5_seatsAhead_26 ⟨Nat.le_of_ble_eq_true rfl, Nat.le_of_ble_eq_true rfl⟩ ?_
    refine kx_top (wf_S hw (show (ir) < nR z by omega)) ?_
    have hS12_8 := wf_S12 hw (show (ir) < nR z by omega)
    refine kx_icmp_ge (tgt := 88) hx hb (by omega) (by omega) dX5_seatsAhead_29 (by decide) (fun c_29_9 => ?_) (fun c_29_10 => ?_)
    · have hq11 : nS z ir = iw := by omega
      subst hq11
      refine lv_iinc (v := nI (ir + 1)) (lv' := [(5, .int (nI (ir + 1))), (0, .ref (a 0)), (1, .int (nI r0)), (2, .int (nI s0)), (3, .int (bI t0)), (4, .int (nI (sumN ir (fun o => sAhR z wy r0 s0 t0 o) + sumN (nS z ir) (fun k => b2 ((!t0 || !tk z ir k) && isAheadB z wy ir k r0 s0))))), (6, .int (nI (nS z ir)))]) hx hb dX5_seatsAhead_88 hl (k := 4) rfl (kx_inc 1) (by decide) rfl (fun ls hl => ?_)
      refine lv_goto (tgt := 6) hx hb dX5_seatsAhead_91 (by decide) ?_
      have e6_12 : (sumN ir (fun o => sAhR z wy r0 s0 t0 o) + sumN (nS z ir) (fun k => b2 ((!t0 || !tk z ir k) && isAheadB z wy ir k r0 s0)) : Nat) = (sumN (ir + 1) (fun o => sAhR z wy r0 s0 t0 o)) := by first | rfl | omega | (simp [sAh, sAhR, sumN_s, b2, Int32.not_lt, Int32.not_le, c_14_3, Nat.not_le.mpr c_14_3, c_29_9, Nat.not_lt.mpr c_29_9]; done) | (simp [sAh, sAhR, sumN_s, b2, Int32.not_lt, Int32.not_le, c_14_3, Nat.not_le.mpr c_14_3, c_29_9, Nat.not_lt.mpr c_29_9]; omega) | (revert c_14_3 c_29_9; simp +contextual [sAh, sAhR, sumN_s, b2, Int32.not_lt, Int32.not_le]; done) | (revert c_14_3 c_29_9; simp +contextual [sAh, sAhR, sumN_s, b2, Int32.not_lt, Int32.not_le]; omega)
      have e6_13 : (ir + 1 : Nat) = ((ir + 1)) := by first | rfl | omega | (simp [sAh, sAhR, sumN_s, b2, Int32.not_lt, Int32.not_le, c_14_3, Nat.not_le.mpr c_14_3, c_29_9, Nat.not_lt.mpr c_29_9]; done) | (simp [sAh, sAhR, sumN_s, b2, Int32.not_lt, Int32.not_le, c_14_3, Nat.not_le.mpr c_14_3, c_29_9, Nat.not_lt.mpr c_29_9]; omega) | (revert c_14_3 c_29_9; simp +contextual [sAh, sAhR, sumN_s, b2, Int32.not_lt, Int32.not_le]; done) | (revert c_14_3 c_29_9; simp +contextual [sAh, sAhR, sumN_s, b2, Int32.not_lt, Int32.not_le]; omega)
      have hl6_14 : lv_has ls 8 [(0, .ref (a 0)), (1, .int (nI r0)), (2, .int (nI s0)), (3, .int (bI t0)), (4, .int (nI (sumN (ir + 1) (fun o => sAhR z wy r0 s0 t0 o)))), (5, .int (nI (ir + 1)))] := lv_eqv (l1 := [(0, .ref (a 0)), (1, .int (nI r0)), (2, .int (nI s0)), (3, .int (bI t0)), (4, .int (nI (sumN ir (fun o => sAhR z wy r0 s0 t0 o) + sumN (nS z ir) (fun k => b2 ((!t0 || !tk z ir k) && isAheadB z wy ir k r0 s0))))), (5, .int (nI (ir + 1)))]) (lv_sub hl [1, 2, 3, 4, 5, 0] rfl) (lv_ce rfl (lv_ce rfl (lv_ce rfl (lv_ce rfl (lv_ce (congrArg (fun x => Value.int (nI x)) e6_12) (lv_ce (congrArg (fun x => Value.int (nI x)) e6_13) rfl))))))
      exact ih6 _ (by omega) (hl6_14)
    · refine lv_iload_n hx hb dX5_seatsAhead_32 rfl (lv_at hl 3 rfl) ?_
      refine kx_if_eqb (tgt := 47) hx hb dX5_seatsAhead_33 (by decide) (fun c_33_15 => ?_) (fun c_33_16 => ?_)
      · refine lv_iconst (v := nI 1) hx hb dX5_seatsAhead_47 (by decide) ?_
        refine lv_goto (tgt := 52) hx hb dX5_seatsAhead_48 (by decide) ?_
        refine lv_istore (lv' := [(7, .int (nI 1)), (0, .ref (a 0)), (1, .int (nI r0)), (2, .int (nI s0)), (3, .int (bI t0)), (5, .int (nI ir)), (4, .int (nI (sumN ir (fun o => sAhR z wy r0 s0 t0 o) + sumN iw (fun k => b2 ((!t0 || !tk z ir k) && isAheadB z wy ir k r0 s0))))), (6, .int (nI iw))]) hx hb dX5_seatsAhead_52 hl (by decide) rfl (fun ls hl => ?_)
        refine lv_iload hx hb dX5_seatsAhead_54 (lv_at hl 6 rfl) ?_
        refine lv_iload hx hb dX5_seatsAhead_56 (lv_at hl 0 rfl) ?_
        refine kx_if_eq (tgt := 78) hx hb (by omega) dX5_seatsAhead_58 (by decide) (fun c => absurd c (by omega)) (fun c_58_17 => ?_)
        refine lv_aload_n hx hb dX5_seatsAhead_61 rfl (lv_at hl 1 rfl) ?_
        refine lv_iload hx hb dX5_seatsAhead_62 (lv_at hl 5 rfl) ?_
        refine lv_iload hx hb dX5_seatsAhead_64 (lv_at hl 7 rfl) ?_
        refine lv_iload_n hx hb dX5_seatsAhead_66 rfl (lv_at hl 2 rfl) ?_
        refine lv_iload_n hx hb dX5_seatsAhead_67 rfl (lv_at hl 3 rfl) ?_
        refine kr_V (As := [.int (nI ir), .int (nI iw), .int (nI r0), .int (nI s0)]) (rest := [.int (nI (sumN ir (fun o => sAhR z wy r0 s0 t0 o) + sumN iw (fun k => b2 ((!t0 || !tk z ir k) && isAheadB z wy ir k r0 s0))))]) (C := RX5) (own := RX5) ⟨hx, hb, hml, hown, hts⟩ (c_X5_isAhead l D cI cC cH cL a z zh tx pa wy st le th rd nu pt za ir iw r0 s0 (by first | assumption | omega) (by first | assumption | omega) (by first | assumption | omega) (by first | assumption | omega) (by first | assumption | omega)) (cwV 4 hts gX5_seatsAhead_X5_isAhead rfl rfl rfl k_X5_isAhead ⟨Nat.le_of_ble_eq_true rfl, Nat.le_of_ble_eq_true rfl⟩) hP hK (va_recv (q := (RX5, TX5, 12)) hK hP (ci := 5) (q0 := 0) rfl rfl) rfl hl.1 rfl (Nat.le_of_ble_eq_true rfl) dX5_seatsAhead_68 ⟨Nat.le_of_ble_eq_true rfl, Nat.le_of_ble_eq_true rfl⟩ ?_
        refine kx_if_eqb (tgt := 78) hx hb dX5_seatsAhead_71 (by decide) (fun c_71_18 => ?_) (fun c_71_19 => ?_)
        · refine lv_iconst (v := nI 0) hx hb dX5_seatsAhead_78 (by decide) ?_
          refine kx_iadd hx hb dX5_seatsAhead_79 ?_
          refine lv_istore (lv' := [(4, .int (nI ((sumN ir (fun o => sAhR z wy r0 s0 t0 o) + sumN iw (fun k => b2 ((!t0 || !tk z ir k) && isAheadB z wy ir k r0 s0))) + 0))), (7, .int (nI 1)), (0, .ref (a 0)), (1, .int (nI r0)), (2, .int (nI s0)), (3, .int (bI t0)), (5, .int (nI ir)), (6, .int (nI iw))]) hx hb dX5_seatsAhead_80 hl (by decide) rfl (fun ls hl => ?_)
          refine lv_iinc (v := nI (iw + 1)) (lv' := [(6, .int (nI (iw + 1))), (4, .int (nI ((sumN ir (fun o => sAhR z wy r0 s0 t0 o) + sumN iw (fun k => b2 ((!t0 || !tk z ir k) && isAheadB z wy ir k r0 s0))) + 0))), (7, .int (nI 1)), (0, .ref (a 0)), (1, .int (nI r0)), (2, .int (nI s0)), (3, .int (bI t0)), (5, .int (nI ir))]) hx hb dX5_seatsAhead_82 hl (k := 7) rfl (kx_inc 1) (by decide) rfl (fun ls hl => ?_)
          refine lv_goto (tgt := 20) hx hb dX5_seatsAhead_85 (by decide) ?_
          have e20_20 : ((sumN ir (fun o => sAhR z wy r0 s0 t0 o) + sumN iw (fun k => b2 ((!t0 || !tk z ir k) && isAheadB z wy ir k r0 s0))) + 0 : Nat) = (sumN ir (fun o => sAhR z wy r0 s0 t0 o) + sumN (iw + 1) (fun k => b2 ((!t0 || !tk z ir k) && isAheadB z wy ir k r0 s0))) := by first | rfl | omega | (simp [sAh, sAhR, sumN_s, b2, Int32.not_lt, Int32.not_le, c_14_3, Nat.not_le.mpr c_14_3, c_29_10, Nat.not_le.mpr c_29_10, c_33_15, c_71_18]; done) | (simp [sAh, sAhR, sumN_s, b2, Int32.not_lt, Int32.not_le, c_14_3, Nat.not_le.mpr c_14_3, c_29_10, Nat.not_le.mpr c_29_10, c_33_15, c_71_18]; omega) | (revert c_14_3 c_29_10 c_33_15 c_71_18; simp +contextual [sAh, sAhR, sumN_s, b2, Int32.not_lt, Int32.not_le]; done) | (revert c_14_3 c_29_10 c_33_15 c_71_18; simp +contextual [sAh, sAhR, sumN_s, b2, Int32.not_lt, Int32.not_le]; omega)
          have e20_21 : (iw + 1 : Nat) = ((iw + 1)) := by first | rfl | omega | (simp [sAh, sAhR, sumN_s, b2, Int32.not_lt, Int32.not_le, c_14_3, Nat.not_le.mpr c_14_3, c_29_10, Nat.not_le.mpr c_29_10, c_33_15, c_71_18]; done) | (simp [sAh, sAhR, sumN_s, b2, Int32.not_lt, Int32.not_le, c_14_3, Nat.not_le.mpr c_14_3, c_29_10, Nat.not_le.mpr c_29_10, c_33_15, c_71_18]; omega) | (revert c_14_3 c_29_10 c_33_15 c_71_18; simp +contextual [sAh, sAhR, sumN_s, b2, Int32.not_lt, Int32.not_le]; done) | (revert c_14_3 c_29_10 c_33_15 c_71_18; simp +contextual [sAh, sAhR, sumN_s, b2, Int32.not_lt, Int32.not_le]; omega)
          have hl20_22 : lv_has ls 8 [(0, .ref (a 0)), (1, .int (nI r0)), (2, .int (nI s0)), (3, .int (bI t0)), (5, .int (nI ir)), (4, .int (nI (sumN ir (fun o => sAhR z wy r0 s0 t0 o) + sumN (iw + 1) (fun k => b2 ((!t0 || !tk z ir k) && isAheadB z wy ir k r0 s0))))), (6, .int (nI (iw + 1)))] := lv_eqv (l1 := [(0, .ref (a 0)), (1, .int (nI r0)), (2, .int (nI s0)), (3, .int (bI t0)), (5, .int (nI ir)), (4, .int (nI ((sumN ir (fun o => sAhR z wy r0 s0 t0 o) + sumN iw (fun k => b2 ((!t0 || !tk z ir k) && isAheadB z wy ir k r0 s0))) + 0))), (6, .int (nI (iw + 1)))]) (lv_sub hl [3, 4, 5, 6, 7, 1, 0] rfl) (lv_ce rfl (lv_ce rfl (lv_ce rfl (lv_ce rfl (lv_ce rfl (lv_ce (congrArg (fun x => Value.int (nI x)) e20_20) (lv_ce (congrArg (fun x => Value.int (nI x)) e20_21) rfl)))))))
          exact ih20 _ (by omega) (hl20_22)
        · refine lv_iconst (v := nI 1) hx hb dX5_seatsAhead_74 (by decide) ?_
          refine lv_goto (tgt := 79) hx hb dX5_seatsAhead_75 (by decide) ?_
          refine kx_iadd hx hb dX5_seatsAhead_79 ?_
          refine lv_istore (lv' := [(4, .int (nI ((sumN ir (fun o => sAhR z wy r0 s0 t0 o) + sumN iw (fun k => b2 ((!t0 || !tk z ir k) && isAheadB z wy ir k r0 s0))) + 1))), (7, .int (nI 1)), (0, .ref (a 0)), (1, .int (nI r0)), (2, .int (nI s0)), (3, .int (bI t0)), (5, .int (nI ir)), (6, .int (nI iw))]) hx hb dX5_seatsAhead_80 hl (by decide) rfl (fun ls hl => ?_)
          refine lv_iinc (v := nI (iw + 1)) (lv' := [(6, .int (nI (iw + 1))), (4, .int (nI ((sumN ir (fun o => sAhR z wy r0 s0 t0 o) + sumN iw (fun k => b2 ((!t0 || !tk z ir k) && isAheadB z wy ir k r0 s0))) + 1))), (7, .int (nI 1)), (0, .ref (a 0)), (1, .int (nI r0)), (2, .int (nI s0)), (3, .int (bI t0)), (5, .int (nI ir))]) hx hb dX5_seatsAhead_82 hl (k := 7) rfl (kx_inc 1) (by decide) rfl (fun ls hl => ?_)
          refine lv_goto (tgt := 20) hx hb dX5_seatsAhead_85 (by decide) ?_
          have e20_23 : ((sumN ir (fun o => sAhR z wy r0 s0 t0 o) + sumN iw (fun k => b2 ((!t0 || !tk z ir k) && isAheadB z wy ir k r0 s0))) + 1 : Nat) = (sumN ir (fun o => sAhR z wy r0 s0 t0 o) + sumN (iw + 1) (fun k => b2 ((!t0 || !tk z ir k) && isAheadB z wy ir k r0 s0))) := by first | rfl | omega | (simp [sAh, sAhR, sumN_s, b2, Int32.not_lt, Int32.not_le, c_14_3, Nat.not_le.mpr c_14_3, c_29_10, Nat.not_le.mpr c_29_10, c_33_15, c_71_19]; done) | (simp [sAh, sAhR, sumN_s, b2, Int32.not_lt, Int32.not_le, c_14_3, Nat.not_le.mpr c_14_3, c_29_10, Nat.not_le.mpr c_29_10, c_33_15, c_71_19]; omega) | (revert c_14_3 c_29_10 c_33_15 c_71_19; simp +contextual [sAh, sAhR, sumN_s, b2, Int32.not_lt, Int32.not_le]; done) | (revert c_14_3 c_29_10 c_33_15 c_71_19; simp +contextual [sAh, sAhR, sumN_s, b2, Int32.not_lt, Int32.not_le]; omega)
          have e20_24 : (iw + 1 : Nat) = ((iw + 1)) := by first | rfl | omega | (simp [sAh, sAhR, sumN_s, b2, Int32.not_lt, Int32.not_le, c_14_3, Nat.not_le.mpr c_14_3, c_29_10, Nat.not_le.mpr c_29_10, c_33_15, c_71_19]; done) | (simp [sAh, sAhR, sumN_s, b2, Int32.not_lt, Int32.not_le, c_14_3, Nat.not_le.mpr c_14_3, c_29_10, Nat.not_le.mpr c_29_10, c_33_15, c_71_19]; omega) | (revert c_14_3 c_29_10 c_33_15 c_71_19; simp +contextual [sAh, sAhR, sumN_s, b2, Int32.not_lt, Int32.not_le]; done) | (revert c_14_3 c_29_10 c_33_15 c_71_19; simp +contextual [sAh, sAhR, sumN_s, b2, Int32.not_lt, Int32.not_le]; omega)
          have hl20_25 : lv_has ls 8 [(0, .ref (a 0)), (1, .int (nI r0)), (2, .int (nI s0)), (3, .int (bI t0)), (5, .int (nI ir)), (4, .int (nI (sumN ir (fun o => sAhR z wy r0 s0 t0 o) + sumN (iw + 1) (fun k => b2 ((!t0 || !tk z ir k) && isAheadB z wy ir k r0 s0))))), (6, .int (nI (iw + 1)))] := lv_eqv (l1 := [(0, .ref (a 0)), (1, .int (nI r0)), (2, .int (nI s0)), (3, .int (bI t0)), (5, .int (nI ir)), (4, .int (nI ((sumN ir (fun o => sAhR z wy r0 s0 t0 o) + sumN iw (fun k => b2 ((!t0 || !tk z ir k) && isAheadB z wy ir k r0 s0))) + 1))), (6, .int (nI (iw + 1)))]) (lv_sub hl [3, 4, 5, 6, 7, 1, 0] rfl) (lv_ce rfl (lv_ce rfl (lv_ce rfl (lv_ce rfl (lv_ce rfl (lv_ce (congrArg (fun x => Value.int (nI x)) e20_23) (lv_ce (congrArg (fun x => Value.int (nI x)) e20_24) rfl)))))))
          exact ih20 _ (by omega) (hl20_25)
      · refine lv_aload_n hx hb dX5_seatsAhead_36 rfl (lv_at hl 0 rfl) ?_
        refine lv_iload hx hb dX5_seatsAhead_37 (lv_at hl 4 rfl) ?_
        refine lv_iload hx hb dX5_seatsAhead_39 (lv_at hl 6 rfl) ?_
        refine kr_V (As := [.int (nI ir), .int (nI iw)]) (rest := []) (C := RX5) (own := RX5) ⟨hx, hb, hml, hown, hts⟩ (c_X5_isTaken l D cI cC cH cL a z zh tx pa wy st le th rd nu pt za ir iw (by first | assumption | omega)) (cwV 2 hts gX5_seatsAhead_X5_isTaken rfl rfl rfl k_X5_isTaken ⟨Nat.le_of_ble_eq_true rfl, Nat.le_of_ble_eq_true rfl⟩) hP hK (va_recv (q := (RX5, TX5, 12)) hK hP (ci := 5) (q0 := 0) rfl rfl) rfl hl.1 rfl (Nat.le_of_ble_eq_true rfl) dX5_seatsAhead_41 ⟨Nat.le_of_ble_eq_true rfl, Nat.le_of_ble_eq_true rfl⟩ ?_
        refine kx_if_neb (tgt := 51) hx hb dX5_seatsAhead_44 (by decide) (fun c_44_26 => ?_) (fun c_44_27 => ?_)
        · refine lv_iconst (v := nI 0) hx hb dX5_seatsAhead_51 (by decide) ?_
          refine lv_istore (lv' := [(7, .int (nI 0)), (0, .ref (a 0)), (1, .int (nI r0)), (2, .int (nI s0)), (3, .int (bI t0)), (5, .int (nI ir)), (4, .int (nI (sumN ir (fun o => sAhR z wy r0 s0 t0 o) + sumN iw (fun k => b2 ((!t0 || !tk z ir k) && isAheadB z wy ir k r0 s0))))), (6, .int (nI iw))]) hx hb dX5_seatsAhead_52 hl (by decide) rfl (fun ls hl => ?_)
          refine lv_iload hx hb dX5_seatsAhead_54 (lv_at hl 6 rfl) ?_
          refine lv_iload hx hb dX5_seatsAhead_56 (lv_at hl 0 rfl) ?_
          refine kx_if_eq (tgt := 78) hx hb (by omega) dX5_seatsAhead_58 (by decide) (fun c_58_28 => ?_) (fun c => absurd c (by omega))
          refine lv_iconst (v := nI 0) hx hb dX5_seatsAhead_78 (by decide) ?_
          refine kx_iadd hx hb dX5_seatsAhead_79 ?_
          refine lv_istore (lv' := [(4, .int (nI ((sumN ir (fun o => sAhR z wy r0 s0 t0 o) + sumN iw (fun k => b2 ((!t0 || !tk z ir k) && isAheadB z wy ir k r0 s0))) + 0))), (7, .int (nI 0)), (0, .ref (a 0)), (1, .int (nI r0)), (2, .int (nI s0)), (3, .int (bI t0)), (5, .int (nI ir)), (6, .int (nI iw))]) hx hb dX5_seatsAhead_80 hl (by decide) rfl (fun ls hl => ?_)
          refine lv_iinc (v := nI (iw + 1)) (lv' := [(6, .int (nI (iw + 1))), (4, .int (nI ((sumN ir (fun o => sAhR z wy r0 s0 t0 o) + sumN iw (fun k => b2 ((!t0 || !tk z ir k) && isAheadB z wy ir k r0 s0))) + 0))), (7, .int (nI 0)), (0, .ref (a 0)), (1, .int (nI r0)), (2, .int (nI s0)), (3, .int (bI t0)), (5, .int (nI ir))]) hx hb dX5_seatsAhead_82 hl (k := 7) rfl (kx_inc 1) (by decide) rfl (fun ls hl => ?_)
          refine lv_goto (tgt := 20) hx hb dX5_seatsAhead_85 (by decide) ?_
          have e20_29 : ((sumN ir (fun o => sAhR z wy r0 s0 t0 o) + sumN iw (fun k => b2 ((!t0 || !tk z ir k) && isAheadB z wy ir k r0 s0))) + 0 : Nat) = (sumN ir (fun o => sAhR z wy r0 s0 t0 o) + sumN (iw + 1) (fun k => b2 ((!t0 || !tk z ir k) && isAheadB z wy ir k r0 s0))) := by first | rfl | omega | (simp [sAh, sAhR, sumN_s, b2, Int32.not_lt, Int32.not_le, c_14_3, Nat.not_le.mpr c_14_3, c_29_10, Nat.not_le.mpr c_29_10, c_33_16, c_44_26]; done) | (simp [sAh, sAhR, sumN_s, b2, Int32.not_lt, Int32.not_le, c_14_3, Nat.not_le.mpr c_14_3, c_29_10, Nat.not_le.mpr c_29_10, c_33_16, c_44_26]; omega) | (revert c_14_3 c_29_10 c_33_16 c_44_26; simp +contextual [sAh, sAhR, sumN_s, b2, Int32.not_lt, Int32.not_le]; done) | (revert c_14_3 c_29_10 c_33_16 c_44_26; simp +contextual [sAh, sAhR, sumN_s, b2, Int32.not_lt, Int32.not_le]; omega)
          have e20_30 : (iw + 1 : Nat) = ((iw + 1)) := by first | rfl | omega | (simp [sAh, sAhR, sumN_s, b2, Int32.not_lt, Int32.not_le, c_14_3, Nat.not_le.mpr c_14_3, c_29_10, Nat.not_le.mpr c_29_10, c_33_16, c_44_26]; done) | (simp [sAh, sAhR, sumN_s, b2, Int32.not_lt, Int32.not_le, c_14_3, Nat.not_le.mpr c_14_3, c_29_10, Nat.not_le.mpr c_29_10, c_33_16, c_44_26]; omega) | (revert c_14_3 c_29_10 c_33_16 c_44_26; simp +contextual [sAh, sAhR, sumN_s, b2, Int32.not_lt, Int32.not_le]; done) | (revert c_14_3 c_29_10 c_33_16 c_44_26; simp +contextual [sAh, sAhR, sumN_s, b2, Int32.not_lt, Int32.not_le]; omega)
          have hl20_31 : lv_has ls 8 [(0, .ref (a 0)), (1, .int (nI r0)), (2, .int (nI s0)), (3, .int (bI t0)), (5, .int (nI ir)), (4, .int (nI (sumN ir (fun o => sAhR z wy r0 s0 t0 o) + sumN (iw + 1) (fun k => b2 ((!t0 || !tk z ir k) && isAheadB z wy ir k r0 s0))))), (6, .int (nI (iw + 1)))] := lv_eqv (l1 := [(0, .ref (a 0)), (1, .int (nI r0)), (2, .int (nI s0)), (3, .int (bI t0)), (5, .int (nI ir)), (4, .int (nI ((sumN ir (fun o => sAhR z wy r0 s0 t0 o) + sumN iw (fun k => b2 ((!t0 || !tk z ir k) && isAheadB z wy ir k r0 s0))) + 0))), (6, .int (nI (iw + 1)))]) (lv_sub hl [3, 4, 5, 6, 7, 1, 0] rfl) (lv_ce rfl (lv_ce rfl (lv_ce rfl (lv_ce rfl (lv_ce rfl (lv_ce (congrArg (fun x => Value.int (nI x)) e20_29) (lv_ce (congrArg (fun x => Value.int (nI x)) e20_30) rfl)))))))
          exact ih20 _ (by omega) (hl20_31)
        · refine lv_iconst (v := nI 1) hx hb dX5_seatsAhead_47 (by decide) ?_
          refine lv_goto (tgt := 52) hx hb dX5_seatsAhead_48 (by decide) ?_
          refine lv_istore (lv' := [(7, .int (nI 1)), (0, .ref (a 0)), (1, .int (nI r0)), (2, .int (nI s0)), (3, .int (bI t0)), (5, .int (nI ir)), (4, .int (nI (sumN ir (fun o => sAhR z wy r0 s0 t0 o) + sumN iw (fun k => b2 ((!t0 || !tk z ir k) && isAheadB z wy ir k r0 s0))))), (6, .int (nI iw))]) hx hb dX5_seatsAhead_52 hl (by decide) rfl (fun ls hl => ?_)
          refine lv_iload hx hb dX5_seatsAhead_54 (lv_at hl 6 rfl) ?_
          refine lv_iload hx hb dX5_seatsAhead_56 (lv_at hl 0 rfl) ?_
          refine kx_if_eq (tgt := 78) hx hb (by omega) dX5_seatsAhead_58 (by decide) (fun c => absurd c (by omega)) (fun c_58_32 => ?_)
          refine lv_aload_n hx hb dX5_seatsAhead_61 rfl (lv_at hl 1 rfl) ?_
          refine lv_iload hx hb dX5_seatsAhead_62 (lv_at hl 5 rfl) ?_
          refine lv_iload hx hb dX5_seatsAhead_64 (lv_at hl 7 rfl) ?_
          refine lv_iload_n hx hb dX5_seatsAhead_66 rfl (lv_at hl 2 rfl) ?_
          refine lv_iload_n hx hb dX5_seatsAhead_67 rfl (lv_at hl 3 rfl) ?_
          refine kr_V (As := [.int (nI ir), .int (nI iw), .int (nI r0), .int (nI s0)]) (rest := [.int (nI (sumN ir (fun o => sAhR z wy r0 s0 t0 o) + sumN iw (fun k => b2 ((!t0 || !tk z ir k) && isAheadB z wy ir k r0 s0))))]) (C := RX5) (own := RX5) ⟨hx, hb, hml, hown, hts⟩ (c_X5_isAhead l D cI cC cH cL a z zh tx pa wy st le th rd nu pt za ir iw r0 s0 (by first | assumption | omega) (by first | assumption | omega) (by first | assumption | omega) (by first | assumption | omega) (by first | assumption | omega)) (cwV 4 hts gX5_seatsAhead_X5_isAhead rfl rfl rfl k_X5_isAhead ⟨Nat.le_of_ble_eq_true rfl, Nat.le_of_ble_eq_true rfl⟩) hP hK (va_recv (q := (RX5, TX5, 12)) hK hP (ci := 5) (q0 := 0) rfl rfl) rfl hl.1 rfl (Nat.le_of_ble_eq_true rfl) dX5_seatsAhead_68 ⟨Nat.le_of_ble_eq_true rfl, Nat.le_of_ble_eq_true rfl⟩ ?_
          refine kx_if_eqb (tgt := 78) hx hb dX5_seatsAhead_71 (by decide) (fun c_71_33 => ?_) (fun c_71_34 => ?_)
          · refine lv_iconst (v := nI 0) hx hb dX5_seatsAhead_78 (by decide) ?_
            refine kx_iadd hx hb dX5_seatsAhead_79 ?_
            refine lv_istore (lv' := [(4, .int (nI ((sumN ir (fun o => sAhR z wy r0 s0 t0 o) + sumN iw (fun k => b2 ((!t0 || !tk z ir k) && isAheadB z wy ir k r0 s0))) + 0))), (7, .int (nI 1)), (0, .ref (a 0)), (1, .int (nI r0)), (2, .int (nI s0)), (3, .int (bI t0)), (5, .int (nI ir)), (6, .int (nI iw))]) hx hb dX5_seatsAhead_80 hl (by decide) rfl (fun ls hl => ?_)
            refine lv_iinc (v := nI (iw + 1)) (lv' := [(6, .int (nI (iw + 1))), (4, .int (nI ((sumN ir (fun o => sAhR z wy r0 s0 t0 o) + sumN iw (fun k => b2 ((!t0 || !tk z ir k) && isAheadB z wy ir k r0 s0))) + 0))), (7, .int (nI 1)), (0, .ref (a 0)), (1, .int (nI r0)), (2, .int (nI s0)), (3, .int (bI t0)), (5, .int (nI ir))]) hx hb dX5_seatsAhead_82 hl (k := 7) rfl (kx_inc 1) (by decide) rfl (fun ls hl => ?_)
            refine lv_goto (tgt := 20) hx hb dX5_seatsAhead_85 (by decide) ?_
            have e20_35 : ((sumN ir (fun o => sAhR z wy r0 s0 t0 o) + sumN iw (fun k => b2 ((!t0 || !tk z ir k) && isAheadB z wy ir k r0 s0))) + 0 : Nat) = (sumN ir (fun o => sAhR z wy r0 s0 t0 o) + sumN (iw + 1) (fun k => b2 ((!t0 || !tk z ir k) && isAheadB z wy ir k r0 s0))) := by first | rfl | omega | (simp [sAh, sAhR, sumN_s, b2, Int32.not_lt, Int32.not_le, c_14_3, Nat.not_le.mpr c_14_3, c_29_10, Nat.not_le.mpr c_29_10, c_33_16, c_44_27, c_71_33]; done) | (simp [sAh, sAhR, sumN_s, b2, Int32.not_lt, Int32.not_le, c_14_3, Nat.not_le.mpr c_14_3, c_29_10, Nat.not_le.mpr c_29_10, c_33_16, c_44_27, c_71_33]; omega) | (revert c_14_3 c_29_10 c_33_16 c_44_27 c_71_33; simp +contextual [sAh, sAhR, sumN_s, b2, Int32.not_lt, Int32.not_le]; done) | (revert c_14_3 c_29_10 c_33_16 c_44_27 c_71_33; simp +contextual [sAh, sAhR, sumN_s, b2, Int32.not_lt, Int32.not_le]; omega)
            have e20_36 : (iw + 1 : Nat) = ((iw + 1)) := by first | rfl | omega | (simp [sAh, sAhR, sumN_s, b2, Int32.not_lt, Int32.not_le, c_14_3, Nat.not_le.mpr c_14_3, c_29_10, Nat.not_le.mpr c_29_10, c_33_16, c_44_27, c_71_33]; done) | (simp [sAh, sAhR, sumN_s, b2, Int32.not_lt, Int32.not_le, c_14_3, Nat.not_le.mpr c_14_3, c_29_10, Nat.not_le.mpr c_29_10, c_33_16, c_44_27, c_71_33]; omega) | (revert c_14_3 c_29_10 c_33_16 c_44_27 c_71_33; simp +contextual [sAh, sAhR, sumN_s, b2, Int32.not_lt, Int32.not_le]; done) | (revert c_14_3 c_29_10 c_33_16 c_44_27 c_71_33; simp +contextual [sAh, sAhR, sumN_s, b2, Int32.not_lt, Int32.not_le]; omega)
            have hl20_37 : lv_has ls 8 [(0, .ref (a 0)), (1, .int (nI r0)), (2, .int (nI s0)), (3, .int (bI t0)), (5, .int (nI ir)), (4, .int (nI (sumN ir (fun o => sAhR z wy r0 s0 t0 o) + sumN (iw + 1) (fun k => b2 ((!t0 || !tk z ir k) && isAheadB z wy ir k r0 s0))))), (6, .int (nI (iw + 1)))] := lv_eqv (l1 := [(0, .ref (a 0)), (1, .int (nI r0)), (2, .int (nI s0)), (3, .int (bI t0)), (5, .int (nI ir)), (4, .int (nI ((sumN ir (fun o => sAhR z wy r0 s0 t0 o) + sumN iw (fun k => b2 ((!t0 || !tk z ir k) && isAheadB z wy ir k r0 s0))) + 0))), (6, .int (nI (iw + 1)))]) (lv_sub hl [3, 4, 5, 6, 7, 1, 0] rfl) (lv_ce rfl (lv_ce rfl (lv_ce rfl (lv_ce rfl (lv_ce rfl (lv_ce (congrArg (fun x => Value.int (nI x)) e20_35) (lv_ce (congrArg (fun x => Value.int (nI x)) e20_36) rfl)))))))
            exact ih20 _ (by omega) (hl20_37)
          · refine lv_iconst (v := nI 1) hx hb dX5_seatsAhead_74 (by decide) ?_
            refine lv_goto (tgt := 79) hx hb dX5_seatsAhead_75 (by decide) ?_
            refine kx_iadd hx hb dX5_seatsAhead_79 ?_
            refine lv_istore (lv' := [(4, .int (nI ((sumN ir (fun o => sAhR z wy r0 s0 t0 o) + sumN iw (fun k => b2 ((!t0 || !tk z ir k) && isAheadB z wy ir k r0 s0))) + 1))), (7, .int (nI 1)), (0, .ref (a 0)), (1, .int (nI r0)), (2, .int (nI s0)), (3, .int (bI t0)), (5, .int (nI ir)), (6, .int (nI iw))]) hx hb dX5_seatsAhead_80 hl (by decide) rfl (fun ls hl => ?_)
            refine lv_iinc (v := nI (iw + 1)) (lv' := [(6, .int (nI (iw + 1))), (4, .int (nI ((sumN ir (fun o => sAhR z wy r0 s0 t0 o) + sumN iw (fun k => b2 ((!t0 || !tk z ir k) && isAheadB z wy ir k r0 s0))) + 1))), (7, .int (nI 1)), (0, .ref (a 0)), (1, .int (nI r0)), (2, .int (nI s0)), (3, .int (bI t0)), (5, .int (nI ir))]) hx hb dX5_seatsAhead_82 hl (k := 7) rfl (kx_inc 1) (by decide) rfl (fun ls hl => ?_)
            refine lv_goto (tgt := 20) hx hb dX5_seatsAhead_85 (by decide) ?_
            have e20_38 : ((sumN ir (fun o => sAhR z wy r0 s0 t0 o) + sumN iw (fun k => b2 ((!t0 || !tk z ir k) && isAheadB z wy ir k r0 s0))) + 1 : Nat) = (sumN ir (fun o => sAhR z wy r0 s0 t0 o) + sumN (iw + 1) (fun k => b2 ((!t0 || !tk z ir k) && isAheadB z wy ir k r0 s0))) := by first | rfl | omega | (simp [sAh, sAhR, sumN_s, b2, Int32.not_lt, Int32.not_le, c_14_3, Nat.not_le.mpr c_14_3, c_29_10, Nat.not_le.mpr c_29_10, c_33_16, c_44_27, c_71_34]; done) | (simp [sAh, sAhR, sumN_s, b2, Int32.not_lt, Int32.not_le, c_14_3, Nat.not_le.mpr c_14_3, c_29_10, Nat.not_le.mpr c_29_10, c_33_16, c_44_27, c_71_34]; omega) | (revert c_14_3 c_29_10 c_33_16 c_44_27 c_71_34; simp +contextual [sAh, sAhR, sumN_s, b2, Int32.not_lt, Int32.not_le]; done) | (revert c_14_3 c_29_10 c_33_16 c_44_27 c_71_34; simp +contextual [sAh, sAhR, sumN_s, b2, Int32.not_lt, Int32.not_le]; omega)
            have e20_39 : (iw + 1 : Nat) = ((iw + 1)) := by first | rfl | omega | (simp [sAh, sAhR, sumN_s, b2, Int32.not_lt, Int32.not_le, c_14_3, Nat.not_le.mpr c_14_3, c_29_10, Nat.not_le.mpr c_29_10, c_33_16, c_44_27, c_71_34]; done) | (simp [sAh, sAhR, sumN_s, b2, Int32.not_lt, Int32.not_le, c_14_3, Nat.not_le.mpr c_14_3, c_29_10, Nat.not_le.mpr c_29_10, c_33_16, c_44_27, c_71_34]; omega) | (revert c_14_3 c_29_10 c_33_16 c_44_27 c_71_34; simp +contextual [sAh, sAhR, sumN_s, b2, Int32.not_lt, Int32.not_le]; done) | (revert c_14_3 c_29_10 c_33_16 c_44_27 c_71_34; simp +contextual [sAh, sAhR, sumN_s, b2, Int32.not_lt, Int32.not_le]; omega)
            have hl20_40 : lv_has ls 8 [(0, .ref (a 0)), (1, .int (nI r0)), (2, .int (nI s0)), (3, .int (bI t0)), (5, .int (nI ir)), (4, .int (nI (sumN ir (fun o => sAhR z wy r0 s0 t0 o) + sumN (iw + 1) (fun k => b2 ((!t0 || !tk z ir k) && isAheadB z wy ir k r0 s0))))), (6, .int (nI (iw + 1)))] := lv_eqv (l1 := [(0, .ref (a 0)), (1, .int (nI r0)), (2, .int (nI s0)), (3, .int (bI t0)), (5, .int (nI ir)), (4, .int (nI ((sumN ir (fun o => sAhR z wy r0 s0 t0 o) + sumN iw (fun k => b2 ((!t0 || !tk z ir k) && isAheadB z wy ir k r0 s0))) + 1))), (6, .int (nI (iw + 1)))]) (lv_sub hl [3, 4, 5, 6, 7, 1, 0] rfl) (lv_ce rfl (lv_ce rfl (lv_ce rfl (lv_ce rfl (lv_ce rfl (lv_ce (congrArg (fun x => Value.int (nI x)) e20_38) (lv_ce (congrArg (fun x => Value.int (nI x)) e20_39) rfl)))))))
            exact ih20 _ (by omega) (hl20_40)
set_option maxRecDepth 20000 in
theorem iX5_seatsBehind_5 : ∀ w ∈ wsX50, w ∈ wsX5_seatsBehind := by decide +kernel
set_option maxHeartbeats 4000000 in
set_option maxRecDepth 100000 in
theorem c_X5_seatsBehind (l : Launch) (D : va_G) (cI cC cH cL : ClassId) (a : Nat → Nat) (z zh tx pa wy : ZZ) (st le th rd nu pt : Int32) (za : Int64) (k0 : Nat) (hw : WF z) (hk : k0 < 4) : Met l yX5_seatsBehind wsX5_seatsBehind ({ frames := 3, cells := 0, slots := 0, locals := 69 }) (kp [.ref (a 0), .int (nI k0)] D (MW a cI z st zh le tx th pa rd nu pt wy za) (kT cI cC cH cL)) (kr (.returned (some (.int (nI (cBeh z k0)))))) 0 0 (fun _ => False) := by
  refine Met.ofW (cc := cX5_seatsBehind) (maxL := 5) (ret := (some .int)) (by decide) rfl ?_
  intro p e s m args below meth c s₁ B hml hv
  obtain ⟨rfl, hP, hK⟩ := hv
  have hx := B.exec
  have hb := B.bytes
  have hrt := B.returns
  have hts := atoms_spec (ws := wsX5_seatsBehind) B.pre
  have hown : s.vm.findClass RX5 = some m.cls := findClass_of_methodNamed B.named
  have hlocks := B.notSynchronized
  have hl := lv_entry ([.ref (a 0), .int (nI k0)]) (n := 5) (Nat.le_of_ble_eq_true rfl)
  rw [lg_entry_eq]
  generalize (lg_sl ([.ref (a 0), .int (nI k0)]) ++ List.replicate (5 - (lg_sl ([.ref (a 0), .int (nI k0)])).length) Slot.unset).toArray = ls at hl ⊢
  have hl : lv_has ls 5 [(0, .ref (a 0)), (1, .int (nI k0))] := hl
  have hR10 := wf_R10 hw
  have hC4 := wf_C4 hw
  refine lv_iconst (v := nI 0) hx hb dX5_seatsBehind_0 (by decide) ?_
  refine lv_istore_n (lv' := [(2, .int (nI 0)), (0, .ref (a 0)), (1, .int (nI k0))]) hx hb dX5_seatsBehind_1 rfl hl (by decide) rfl (fun ls hl => ?_)
  refine lv_iconst (v := nI 0) hx hb dX5_seatsBehind_2 (by decide) ?_
  refine lv_istore_n (lv' := [(3, .int (nI 0)), (2, .int (nI 0)), (0, .ref (a 0)), (1, .int (nI k0))]) hx hb dX5_seatsBehind_3 rfl hl (by decide) rfl (fun ls hl => ?_)
  have e4_0 : (0 : Nat) = (sumN 0 (fun r => cBehR z k0 r)) := by first | rfl | omega | (simp [cBeh, cBehR, sumN_s, b2, Int32.not_lt, Int32.not_le]; done) | (simp [cBeh, cBehR, sumN_s, b2, Int32.not_lt, Int32.not_le]; omega)
  have hl4_1 : lv_has ls 5 [(0, .ref (a 0)), (1, .int (nI k0)), (2, .int (nI (sumN 0 (fun r => cBehR z k0 r)))), (3, .int (nI 0))] := lv_eqv (l1 := [(0, .ref (a 0)), (1, .int (nI k0)), (2, .int (nI 0)), (3, .int (nI 0))]) (lv_sub hl [2, 3, 1, 0] rfl) (lv_ce rfl (lv_ce rfl (lv_ce (congrArg (fun x => Value.int (nI x)) e4_0) (lv_ce rfl rfl))))
  refine kx_up (fun k ls => lv_has ls 5 [(0, .ref (a 0)), (1, .int (nI k0)), (2, .int (nI (sumN k (fun r => cBehR z k0 r)))), (3, .int (nI k))]) (0) (nR z) (by omega) ls (hl4_1) ?_
  intro ir ls hirl hirh hp ih4
  have hl := hp
  refine lv_iload_n hx hb dX5_seatsBehind_4 rfl (lv_at hl 3 rfl) ?_
  refine lv_aload_n hx hb dX5_seatsBehind_5 rfl (lv_at hl 0 rfl) ?_
  refine va_get (D := D) (ci := 5) (v := .ref (a 1)) (C := RX5) (T := TX5) (N := 12) hx hb hts iX5_seatsBehind_5 hown hK hP 0 rfl rfl 0 (by decide) (hts (.fieldLink RX5 7 "HallSightsModel" "z" "[I") (List.mem_of_getElem? (i := 1) rfl)) (fun _ h9 => h9) rfl dX5_seatsBehind_6 ?_
  refine lv_iconst (v := nI 3) hx hb dX5_seatsBehind_9 (by decide) ?_
  refine kx_iald hx hb hK hP 1 0 rfl rfl (by omega) (by decide) dX5_seatsBehind_10 ?_
  refine kx_top (wf_R hw) ?_
  refine kx_icmp_ge (tgt := 59) hx hb (by omega) (by omega) dX5_seatsBehind_11 (by decide) (fun c_11_2 => ?_) (fun c_11_3 => ?_)
  · have hq4 : nR z = ir := by omega
    subst hq4
    refine lv_iload_n hx hb dX5_seatsBehind_59 rfl (lv_at hl 2 rfl) ?_
    have e_5 : (sumN (nR z) (fun r => cBehR z k0 r) : Nat) = (cBeh z k0) := by first | rfl | omega | (simp [cBeh, cBehR, sumN_s, b2, Int32.not_lt, Int32.not_le, c_11_2, Nat.not_lt.mpr c_11_2]; done) | (simp [cBeh, cBehR, sumN_s, b2, Int32.not_lt, Int32.not_le, c_11_2, Nat.not_lt.mpr c_11_2]; omega) | (revert c_11_2; simp +contextual [cBeh, cBehR, sumN_s, b2, Int32.not_lt, Int32.not_le]; done) | (revert c_11_2; simp +contextual [cBeh, cBehR, sumN_s, b2, Int32.not_lt, Int32.not_le]; omega)
    exact kr_iret hx hb hrt hlocks (congrArg nI e_5) rfl dX5_seatsBehind_60
  · refine lv_iconst (v := nI 0) hx hb dX5_seatsBehind_14 (by decide) ?_
    refine lv_istore (lv' := [(4, .int (nI 0)), (0, .ref (a 0)), (1, .int (nI k0)), (2, .int (nI (sumN ir (fun r => cBehR z k0 r)))), (3, .int (nI ir))]) hx hb dX5_seatsBehind_15 hl (by decide) rfl (fun ls hl => ?_)
    have e17_6 : (sumN ir (fun r => cBehR z k0 r) : Nat) = (sumN ir (fun r => cBehR z k0 r) + sumN 0 (fun w => b2 (cblk z k0 ir w))) := by first | rfl | omega | (simp [cBeh, cBehR, sumN_s, b2, Int32.not_lt, Int32.not_le, c_11_3, Nat.not_le.mpr c_11_3]; done) | (simp [cBeh, cBehR, sumN_s, b2, Int32.not_lt, Int32.not_le, c_11_3, Nat.not_le.mpr c_11_3]; omega) | (revert c_11_3; simp +contextual [cBeh, cBehR, sumN_s, b2, Int32.not_lt, Int32.not_le]; done) | (revert c_11_3; simp +contextual [cBeh, cBehR, sumN_s, b2, Int32.not_lt, Int32.not_le]; omega)
    have hl17_7 : lv_has ls 5 [(0, .ref (a 0)), (1, .int (nI k0)), (3, .int (nI ir)), (2, .int (nI (sumN ir (fun r => cBehR z k0 r) + sumN 0 (fun w => b2 (cblk z k0 ir w))))), (4, .int (nI 0))] := lv_eqv (l1 := [(0, .ref (a 0)), (1, .int (nI k0)), (3, .int (nI ir)), (2, .int (nI (sumN ir (fun r => cBehR z k0 r)))), (4, .int (nI 0))]) (lv_sub hl [1, 2, 4, 3, 0] rfl) (lv_ce rfl (lv_ce rfl (lv_ce rfl (lv_ce (congrArg (fun x => Value.int (nI x)) e17_6) (lv_ce rfl rfl)))))
    refine kx_up (fun k ls => lv_has ls 5 [(0, .ref (a 0)), (1, .int (nI k0)), (3, .int (nI ir)), (2, .int (nI (sumN ir (fun r => cBehR z k0 r) + sumN k (fun w => b2 (cblk z k0 ir w))))), (4, .int (nI k))]) (0) (nS z ir) (by omega) ls (hl17_7) ?_
    intro iw ls hiwl hiwh hp ih17
    have hl := hp
    refine lv_iload hx hb dX5_seatsBehind_17 (lv_at hl 4 rfl) ?_
    refine lv_aload_n hx hb dX5_seatsBehind_19 rfl (lv_at hl 0 rfl) ?_
    refine lv_iload_n hx hb dX5_seatsBehind_20 rfl (lv_at hl 2 rfl) ?_
    refine lv_iconst (v := nI 2) hx hb dX5_seatsBehind_21 (by decide) ?_
    refine kr_V (As := [.int (nI ir), .int (nI 2)]) (rest := [.int (nI iw)]) (C := RX5) (own := RX5) ⟨hx, hb, hml, hown, hts⟩ (c_X5_of l D cI cC cH cL a z zh tx pa wy st le th rd nu pt za ir 2 (by first | assumption | omega)) (cwV 2 hts gX5_seatsBehind_X5_of rfl rfl rfl k_X5_of ⟨Nat.le_of_ble_eq_true rfl, Nat.le_of_ble_eq_true rfl⟩) hP hK (va_recv (q := (RX5, TX5, 12)) hK hP (ci := 5) (q0 := 0) rfl rfl) rfl hl.1 rfl (Nat.le_of_ble_eq_true rfl) dX5_seatsBehind_22 ⟨Nat.le_of_ble_eq_true rfl, Nat.le_of_ble_eq_true rfl⟩ ?_
    refine kx_top (wf_S hw (show (ir) < nR z by omega)) ?_
    have hS12_8 := wf_S12 hw (show (ir) < nR z by omega)
    refine kx_icmp_ge (tgt := 53) hx hb (by omega) (by omega) dX5_seatsBehind_25 (by decide) (fun c_25_9 => ?_) (fun c_25_10 => ?_)
    · have hq11 : nS z ir = iw := by omega
      subst hq11
      refine lv_iinc (v := nI (ir + 1)) (lv' := [(3, .int (nI (ir + 1))), (0, .ref (a 0)), (1, .int (nI k0)), (2, .int (nI (sumN ir (fun r => cBehR z k0 r) + sumN (nS z ir) (fun w => b2 (cblk z k0 ir w))))), (4, .int (nI (nS z ir)))]) hx hb dX5_seatsBehind_53 hl (k := 2) rfl (kx_inc 1) (by decide) rfl (fun ls hl => ?_)
      refine lv_goto (tgt := 4) hx hb dX5_seatsBehind_56 (by decide) ?_
      have e4_12 : (sumN ir (fun r => cBehR z k0 r) + sumN (nS z ir) (fun w => b2 (cblk z k0 ir w)) : Nat) = (sumN (ir + 1) (fun r => cBehR z k0 r)) := by first | rfl | omega | (simp [cBeh, cBehR, sumN_s, b2, Int32.not_lt, Int32.not_le, c_11_3, Nat.not_le.mpr c_11_3, c_25_9, Nat.not_lt.mpr c_25_9]; done) | (simp [cBeh, cBehR, sumN_s, b2, Int32.not_lt, Int32.not_le, c_11_3, Nat.not_le.mpr c_11_3, c_25_9, Nat.not_lt.mpr c_25_9]; omega) | (revert c_11_3 c_25_9; simp +contextual [cBeh, cBehR, sumN_s, b2, Int32.not_lt, Int32.not_le]; done) | (revert c_11_3 c_25_9; simp +contextual [cBeh, cBehR, sumN_s, b2, Int32.not_lt, Int32.not_le]; omega)
      have e4_13 : (ir + 1 : Nat) = ((ir + 1)) := by first | rfl | omega | (simp [cBeh, cBehR, sumN_s, b2, Int32.not_lt, Int32.not_le, c_11_3, Nat.not_le.mpr c_11_3, c_25_9, Nat.not_lt.mpr c_25_9]; done) | (simp [cBeh, cBehR, sumN_s, b2, Int32.not_lt, Int32.not_le, c_11_3, Nat.not_le.mpr c_11_3, c_25_9, Nat.not_lt.mpr c_25_9]; omega) | (revert c_11_3 c_25_9; simp +contextual [cBeh, cBehR, sumN_s, b2, Int32.not_lt, Int32.not_le]; done) | (revert c_11_3 c_25_9; simp +contextual [cBeh, cBehR, sumN_s, b2, Int32.not_lt, Int32.not_le]; omega)
      have hl4_14 : lv_has ls 5 [(0, .ref (a 0)), (1, .int (nI k0)), (2, .int (nI (sumN (ir + 1) (fun r => cBehR z k0 r)))), (3, .int (nI (ir + 1)))] := lv_eqv (l1 := [(0, .ref (a 0)), (1, .int (nI k0)), (2, .int (nI (sumN ir (fun r => cBehR z k0 r) + sumN (nS z ir) (fun w => b2 (cblk z k0 ir w))))), (3, .int (nI (ir + 1)))]) (lv_sub hl [1, 2, 3, 0] rfl) (lv_ce rfl (lv_ce rfl (lv_ce (congrArg (fun x => Value.int (nI x)) e4_12) (lv_ce (congrArg (fun x => Value.int (nI x)) e4_13) rfl))))
      exact ih4 _ (by omega) (hl4_14)
    · refine lv_iload_n hx hb dX5_seatsBehind_28 rfl (lv_at hl 3 rfl) ?_
      refine lv_aload_n hx hb dX5_seatsBehind_29 rfl (lv_at hl 0 rfl) ?_
      refine lv_iload_n hx hb dX5_seatsBehind_30 rfl (lv_at hl 1 rfl) ?_
      refine lv_iload_n hx hb dX5_seatsBehind_31 rfl (lv_at hl 2 rfl) ?_
      refine lv_iload hx hb dX5_seatsBehind_32 (lv_at hl 4 rfl) ?_
      refine kr_V (As := [.int (nI k0), .int (nI ir), .int (nI iw)]) (rest := [.int (nI (sumN ir (fun r => cBehR z k0 r) + sumN iw (fun w => b2 (cblk z k0 ir w))))]) (C := RX5) (own := RX5) ⟨hx, hb, hml, hown, hts⟩ (c_X5_columnBlocks l D cI cC cH cL a z zh tx pa wy st le th rd nu pt za k0 ir iw (by first | assumption | omega) (by first | assumption | omega) (by first | assumption | omega)) (cwV 3 hts gX5_seatsBehind_X5_columnBlocks rfl rfl rfl k_X5_columnBlocks ⟨Nat.le_of_ble_eq_true rfl, Nat.le_of_ble_eq_true rfl⟩) hP hK (va_recv (q := (RX5, TX5, 12)) hK hP (ci := 5) (q0 := 0) rfl rfl) rfl hl.1 rfl (Nat.le_of_ble_eq_true rfl) dX5_seatsBehind_34 ⟨Nat.le_of_ble_eq_true rfl, Nat.le_of_ble_eq_true rfl⟩ ?_
      refine kx_if_eqb (tgt := 44) hx hb dX5_seatsBehind_37 (by decide) (fun c_37_15 => ?_) (fun c_37_16 => ?_)
      · refine lv_iconst (v := nI 0) hx hb dX5_seatsBehind_44 (by decide) ?_
        refine kx_iadd hx hb dX5_seatsBehind_45 ?_
        refine lv_istore_n (lv' := [(2, .int (nI ((sumN ir (fun r => cBehR z k0 r) + sumN iw (fun w => b2 (cblk z k0 ir w))) + 0))), (0, .ref (a 0)), (1, .int (nI k0)), (3, .int (nI ir)), (4, .int (nI iw))]) hx hb dX5_seatsBehind_46 rfl hl (by decide) rfl (fun ls hl => ?_)
        refine lv_iinc (v := nI (iw + 1)) (lv' := [(4, .int (nI (iw + 1))), (2, .int (nI ((sumN ir (fun r => cBehR z k0 r) + sumN iw (fun w => b2 (cblk z k0 ir w))) + 0))), (0, .ref (a 0)), (1, .int (nI k0)), (3, .int (nI ir))]) hx hb dX5_seatsBehind_47 hl (k := 4) rfl (kx_inc 1) (by decide) rfl (fun ls hl => ?_)
        refine lv_goto (tgt := 17) hx hb dX5_seatsBehind_50 (by decide) ?_
        have e17_17 : ((sumN ir (fun r => cBehR z k0 r) + sumN iw (fun w => b2 (cblk z k0 ir w))) + 0 : Nat) = (sumN ir (fun r => cBehR z k0 r) + sumN (iw + 1) (fun w => b2 (cblk z k0 ir w))) := by first | rfl | omega | (simp [cBeh, cBehR, sumN_s, b2, Int32.not_lt, Int32.not_le, c_11_3, Nat.not_le.mpr c_11_3, c_25_10, Nat.not_le.mpr c_25_10, c_37_15]; done) | (simp [cBeh, cBehR, sumN_s, b2, Int32.not_lt, Int32.not_le, c_11_3, Nat.not_le.mpr c_11_3, c_25_10, Nat.not_le.mpr c_25_10, c_37_15]; omega) | (revert c_11_3 c_25_10 c_37_15; simp +contextual [cBeh, cBehR, sumN_s, b2, Int32.not_lt, Int32.not_le]; done) | (revert c_11_3 c_25_10 c_37_15; simp +contextual [cBeh, cBehR, sumN_s, b2, Int32.not_lt, Int32.not_le]; omega)
        have e17_18 : (iw + 1 : Nat) = ((iw + 1)) := by first | rfl | omega | (simp [cBeh, cBehR, sumN_s, b2, Int32.not_lt, Int32.not_le, c_11_3, Nat.not_le.mpr c_11_3, c_25_10, Nat.not_le.mpr c_25_10, c_37_15]; done) | (simp [cBeh, cBehR, sumN_s, b2, Int32.not_lt, Int32.not_le, c_11_3, Nat.not_le.mpr c_11_3, c_25_10, Nat.not_le.mpr c_25_10, c_37_15]; omega) | (revert c_11_3 c_25_10 c_37_15; simp +contextual [cBeh, cBehR, sumN_s, b2, Int32.not_lt, Int32.not_le]; done) | (revert c_11_3 c_25_10 c_37_15; simp +contextual [cBeh, cBehR, sumN_s, b2, Int32.not_lt, Int32.not_le]; omega)
        have hl17_19 : lv_has ls 5 [(0, .ref (a 0)), (1, .int (nI k0)), (3, .int (nI ir)), (2, .int (nI (sumN ir (fun r => cBehR z k0 r) + sumN (iw + 1) (fun w => b2 (cblk z k0 ir w))))), (4, .int (nI (iw + 1)))] := lv_eqv (l1 := [(0, .ref (a 0)), (1, .int (nI k0)), (3, .int (nI ir)), (2, .int (nI ((sumN ir (fun r => cBehR z k0 r) + sumN iw (fun w => b2 (cblk z k0 ir w))) + 0))), (4, .int (nI (iw + 1)))]) (lv_sub hl [2, 3, 4, 1, 0] rfl) (lv_ce rfl (lv_ce rfl (lv_ce rfl (lv_ce (congrArg (fun x => Value.int (nI x)) e17_17) (lv_ce (congrArg (fun x => Value.int (nI x)) e17_18) rfl)))))
        exact ih17 _ (by omega) (hl17_19)
      · refine lv_iconst (v := nI 1) hx hb dX5_seatsBehind_40 (by decide) ?_
        refine lv_goto (tgt := 45) hx hb dX5_seatsBehind_41 (by decide) ?_
        refine kx_iadd hx hb dX5_seatsBehind_45 ?_
        refine lv_istore_n (lv' := [(2, .int (nI ((sumN ir (fun r => cBehR z k0 r) + sumN iw (fun w => b2 (cblk z k0 ir w))) + 1))), (0, .ref (a 0)), (1, .int (nI k0)), (3, .int (nI ir)), (4, .int (nI iw))]) hx hb dX5_seatsBehind_46 rfl hl (by decide) rfl (fun ls hl => ?_)
        refine lv_iinc (v := nI (iw + 1)) (lv' := [(4, .int (nI (iw + 1))), (2, .int (nI ((sumN ir (fun r => cBehR z k0 r) + sumN iw (fun w => b2 (cblk z k0 ir w))) + 1))), (0, .ref (a 0)), (1, .int (nI k0)), (3, .int (nI ir))]) hx hb dX5_seatsBehind_47 hl (k := 4) rfl (kx_inc 1) (by decide) rfl (fun ls hl => ?_)
        refine lv_goto (tgt := 17) hx hb dX5_seatsBehind_50 (by decide) ?_
        have e17_20 : ((sumN ir (fun r => cBehR z k0 r) + sumN iw (fun w => b2 (cblk z k0 ir w))) + 1 : Nat) = (sumN ir (fun r => cBehR z k0 r) + sumN (iw + 1) (fun w => b2 (cblk z k0 ir w))) := by first | rfl | omega | (simp [cBeh, cBehR, sumN_s, b2, Int32.not_lt, Int32.not_le, c_11_3, Nat.not_le.mpr c_11_3, c_25_10, Nat.not_le.mpr c_25_10, c_37_16]; done) | (simp [cBeh, cBehR, sumN_s, b2, Int32.not_lt, Int32.not_le, c_11_3, Nat.not_le.mpr c_11_3, c_25_10, Nat.not_le.mpr c_25_10, c_37_16]; omega) | (revert c_11_3 c_25_10 c_37_16; simp +contextual [cBeh, cBehR, sumN_s, b2, Int32.not_lt, Int32.not_le]; done) | (revert c_11_3 c_25_10 c_37_16; simp +contextual [cBeh, cBehR, sumN_s, b2, Int32.not_lt, Int32.not_le]; omega)
        have e17_21 : (iw + 1 : Nat) = ((iw + 1)) := by first | rfl | omega | (simp [cBeh, cBehR, sumN_s, b2, Int32.not_lt, Int32.not_le, c_11_3, Nat.not_le.mpr c_11_3, c_25_10, Nat.not_le.mpr c_25_10, c_37_16]; done) | (simp [cBeh, cBehR, sumN_s, b2, Int32.not_lt, Int32.not_le, c_11_3, Nat.not_le.mpr c_11_3, c_25_10, Nat.not_le.mpr c_25_10, c_37_16]; omega) | (revert c_11_3 c_25_10 c_37_16; simp +contextual [cBeh, cBehR, sumN_s, b2, Int32.not_lt, Int32.not_le]; done) | (revert c_11_3 c_25_10 c_37_16; simp +contextual [cBeh, cBehR, sumN_s, b2, Int32.not_lt, Int32.not_le]; omega)
        have hl17_22 : lv_has ls 5 [(0, .ref (a 0)), (1, .int (nI k0)), (3, .int (nI ir)), (2, .int (nI (sumN ir (fun r => cBehR z k0 r) + sumN (iw + 1) (fun w => b2 (cblk z k0 ir w))))), (4, .int (nI (iw + 1)))] := lv_eqv (l1 := [(0, .ref (a 0)), (1, .int (nI k0)), (3, .int (nI ir)), (2, .int (nI ((sumN ir (fun r => cBehR z k0 r) + sumN iw (fun w => b2 (cblk z k0 ir w))) + 1))), (4, .int (nI (iw + 1)))]) (lv_sub hl [2, 3, 4, 1, 0] rfl) (lv_ce rfl (lv_ce rfl (lv_ce rfl (lv_ce (congrArg (fun x => Value.int (nI x)) e17_20) (lv_ce (congrArg (fun x => Value.int (nI x)) e17_21) rfl)))))
        exact ih17 _ (by omega) (hl17_22)
set_option maxRecDepth 20000 in
theorem iX5_pairs_5 : ∀ w ∈ wsX50, w ∈ wsX5_pairs := by decide +kernel
set_option maxHeartbeats 4000000 in
set_option maxRecDepth 100000 in
theorem c_X5_pairs (l : Launch) (D : va_G) (cI cC cH cL : ClassId) (a : Nat → Nat) (z zh tx pa wy : ZZ) (st le th rd nu pt : Int32) (za : Int64)  (hw : WF z) : Met l yX5_pairs wsX5_pairs ({ frames := 4, cells := 0, slots := 0, locals := 96 }) (kp [.ref (a 0)] D (MW a cI z st zh le tx th pa rd nu pt wy za) (kT cI cC cH cL)) (kr (.returned (some (.int (nI (pairsN z)))))) 0 0 (fun _ => False) := by
  refine Met.ofW (cc := cX5_pairs) (maxL := 4) (ret := (some .int)) (by decide) rfl ?_
  intro p e s m args below meth c s₁ B hml hv
  obtain ⟨rfl, hP, hK⟩ := hv
  have hx := B.exec
  have hb := B.bytes
  have hrt := B.returns
  have hts := atoms_spec (ws := wsX5_pairs) B.pre
  have hown : s.vm.findClass RX5 = some m.cls := findClass_of_methodNamed B.named
  have hlocks := B.notSynchronized
  have hl := lv_entry ([.ref (a 0)]) (n := 4) (Nat.le_of_ble_eq_true rfl)
  rw [lg_entry_eq]
  generalize (lg_sl ([.ref (a 0)]) ++ List.replicate (4 - (lg_sl ([.ref (a 0)])).length) Slot.unset).toArray = ls at hl ⊢
  have hl : lv_has ls 4 [(0, .ref (a 0))] := hl
  have hR10 := wf_R10 hw
  have hC4 := wf_C4 hw
  refine lv_iconst (v := nI 0) hx hb dX5_pairs_0 (by decide) ?_
  refine lv_istore_n (lv' := [(1, .int (nI 0)), (0, .ref (a 0))]) hx hb dX5_pairs_1 rfl hl (by decide) rfl (fun ls hl => ?_)
  refine lv_iconst (v := nI 0) hx hb dX5_pairs_2 (by decide) ?_
  refine lv_istore_n (lv' := [(2, .int (nI 0)), (1, .int (nI 0)), (0, .ref (a 0))]) hx hb dX5_pairs_3 rfl hl (by decide) rfl (fun ls hl => ?_)
  have e4_0 : (0 : Nat) = (sumN 0 (fun r => pairsR z r)) := by first | rfl | omega | (simp [pairsN, pairsR, sumN_s, Int32.not_lt, Int32.not_le]; done) | (simp [pairsN, pairsR, sumN_s, Int32.not_lt, Int32.not_le]; omega)
  have hl4_1 : lv_has ls 4 [(0, .ref (a 0)), (1, .int (nI (sumN 0 (fun r => pairsR z r)))), (2, .int (nI 0))] := lv_eqv (l1 := [(0, .ref (a 0)), (1, .int (nI 0)), (2, .int (nI 0))]) (lv_sub hl [2, 1, 0] rfl) (lv_ce rfl (lv_ce (congrArg (fun x => Value.int (nI x)) e4_0) (lv_ce rfl rfl)))
  refine kx_up (fun k ls => lv_has ls 4 [(0, .ref (a 0)), (1, .int (nI (sumN k (fun r => pairsR z r)))), (2, .int (nI k))]) (0) (nR z) (by omega) ls (hl4_1) ?_
  intro ir ls hirl hirh hp ih4
  have hl := hp
  refine lv_iload_n hx hb dX5_pairs_4 rfl (lv_at hl 2 rfl) ?_
  refine lv_aload_n hx hb dX5_pairs_5 rfl (lv_at hl 0 rfl) ?_
  refine va_get (D := D) (ci := 5) (v := .ref (a 1)) (C := RX5) (T := TX5) (N := 12) hx hb hts iX5_pairs_5 hown hK hP 0 rfl rfl 0 (by decide) (hts (.fieldLink RX5 7 "HallSightsModel" "z" "[I") (List.mem_of_getElem? (i := 1) rfl)) (fun _ h9 => h9) rfl dX5_pairs_6 ?_
  refine lv_iconst (v := nI 3) hx hb dX5_pairs_9 (by decide) ?_
  refine kx_iald hx hb hK hP 1 0 rfl rfl (by omega) (by decide) dX5_pairs_10 ?_
  refine kx_top (wf_R hw) ?_
  refine kx_icmp_ge (tgt := 60) hx hb (by omega) (by omega) dX5_pairs_11 (by decide) (fun c_11_2 => ?_) (fun c_11_3 => ?_)
  · have hq4 : nR z = ir := by omega
    subst hq4
    refine lv_iload_n hx hb dX5_pairs_60 rfl (lv_at hl 1 rfl) ?_
    have e_5 : (sumN (nR z) (fun r => pairsR z r) : Nat) = (pairsN z) := by first | rfl | omega | (simp [pairsN, pairsR, sumN_s, Int32.not_lt, Int32.not_le, c_11_2, Nat.not_lt.mpr c_11_2]; done) | (simp [pairsN, pairsR, sumN_s, Int32.not_lt, Int32.not_le, c_11_2, Nat.not_lt.mpr c_11_2]; omega) | (revert c_11_2; simp +contextual [pairsN, pairsR, sumN_s, Int32.not_lt, Int32.not_le]; done) | (revert c_11_2; simp +contextual [pairsN, pairsR, sumN_s, Int32.not_lt, Int32.not_le]; omega)
    exact kr_iret hx hb hrt hlocks (congrArg nI e_5) rfl dX5_pairs_61
  · refine lv_iconst (v := nI 0) hx hb dX5_pairs_14 (by decide) ?_
    refine lv_istore_n (lv' := [(3, .int (nI 0)), (0, .ref (a 0)), (1, .int (nI (sumN ir (fun r => pairsR z r)))), (2, .int (nI ir))]) hx hb dX5_pairs_15 rfl hl (by decide) rfl (fun ls hl => ?_)
    have e16_6 : (sumN ir (fun r => pairsR z r) : Nat) = (sumN ir (fun r => pairsR z r) + sumN 0 (fun w => if tk z ir w = true then people z ir w else 0)) := by first | rfl | omega | (simp [pairsN, pairsR, sumN_s, Int32.not_lt, Int32.not_le, c_11_3, Nat.not_le.mpr c_11_3]; done) | (simp [pairsN, pairsR, sumN_s, Int32.not_lt, Int32.not_le, c_11_3, Nat.not_le.mpr c_11_3]; omega) | (revert c_11_3; simp +contextual [pairsN, pairsR, sumN_s, Int32.not_lt, Int32.not_le]; done) | (revert c_11_3; simp +contextual [pairsN, pairsR, sumN_s, Int32.not_lt, Int32.not_le]; omega)
    have hl16_7 : lv_has ls 4 [(0, .ref (a 0)), (2, .int (nI ir)), (1, .int (nI (sumN ir (fun r => pairsR z r) + sumN 0 (fun w => if tk z ir w = true then people z ir w else 0)))), (3, .int (nI 0))] := lv_eqv (l1 := [(0, .ref (a 0)), (2, .int (nI ir)), (1, .int (nI (sumN ir (fun r => pairsR z r)))), (3, .int (nI 0))]) (lv_sub hl [1, 3, 2, 0] rfl) (lv_ce rfl (lv_ce rfl (lv_ce (congrArg (fun x => Value.int (nI x)) e16_6) (lv_ce rfl rfl))))
    refine kx_up (fun k ls => lv_has ls 4 [(0, .ref (a 0)), (2, .int (nI ir)), (1, .int (nI (sumN ir (fun r => pairsR z r) + sumN k (fun w => if tk z ir w = true then people z ir w else 0)))), (3, .int (nI k))]) (0) (nS z ir) (by omega) ls (hl16_7) ?_
    intro iw ls hiwl hiwh hp ih16
    have hl := hp
    refine lv_iload_n hx hb dX5_pairs_16 rfl (lv_at hl 3 rfl) ?_
    refine lv_aload_n hx hb dX5_pairs_17 rfl (lv_at hl 0 rfl) ?_
    refine lv_iload_n hx hb dX5_pairs_18 rfl (lv_at hl 1 rfl) ?_
    refine lv_iconst (v := nI 2) hx hb dX5_pairs_19 (by decide) ?_
    refine kr_V (As := [.int (nI ir), .int (nI 2)]) (rest := [.int (nI iw)]) (C := RX5) (own := RX5) ⟨hx, hb, hml, hown, hts⟩ (c_X5_of l D cI cC cH cL a z zh tx pa wy st le th rd nu pt za ir 2 (by first | assumption | omega)) (cwV 2 hts gX5_pairs_X5_of rfl rfl rfl k_X5_of ⟨Nat.le_of_ble_eq_true rfl, Nat.le_of_ble_eq_true rfl⟩) hP hK (va_recv (q := (RX5, TX5, 12)) hK hP (ci := 5) (q0 := 0) rfl rfl) rfl hl.1 rfl (Nat.le_of_ble_eq_true rfl) dX5_pairs_20 ⟨Nat.le_of_ble_eq_true rfl, Nat.le_of_ble_eq_true rfl⟩ ?_
    refine kx_top (wf_S hw (show (ir) < nR z by omega)) ?_
    have hS12_8 := wf_S12 hw (show (ir) < nR z by omega)
    refine kx_icmp_ge (tgt := 54) hx hb (by omega) (by omega) dX5_pairs_23 (by decide) (fun c_23_9 => ?_) (fun c_23_10 => ?_)
    · have hq11 : nS z ir = iw := by omega
      subst hq11
      refine lv_iinc (v := nI (ir + 1)) (lv' := [(2, .int (nI (ir + 1))), (0, .ref (a 0)), (1, .int (nI (sumN ir (fun r => pairsR z r) + sumN (nS z ir) (fun w => if tk z ir w = true then people z ir w else 0)))), (3, .int (nI (nS z ir)))]) hx hb dX5_pairs_54 hl (k := 1) rfl (kx_inc 1) (by decide) rfl (fun ls hl => ?_)
      refine lv_goto (tgt := 4) hx hb dX5_pairs_57 (by decide) ?_
      have e4_12 : (sumN ir (fun r => pairsR z r) + sumN (nS z ir) (fun w => if tk z ir w = true then people z ir w else 0) : Nat) = (sumN (ir + 1) (fun r => pairsR z r)) := by first | rfl | omega | (simp [pairsN, pairsR, sumN_s, Int32.not_lt, Int32.not_le, c_11_3, Nat.not_le.mpr c_11_3, c_23_9, Nat.not_lt.mpr c_23_9]; done) | (simp [pairsN, pairsR, sumN_s, Int32.not_lt, Int32.not_le, c_11_3, Nat.not_le.mpr c_11_3, c_23_9, Nat.not_lt.mpr c_23_9]; omega) | (revert c_11_3 c_23_9; simp +contextual [pairsN, pairsR, sumN_s, Int32.not_lt, Int32.not_le]; done) | (revert c_11_3 c_23_9; simp +contextual [pairsN, pairsR, sumN_s, Int32.not_lt, Int32.not_le]; omega)
      have e4_13 : (ir + 1 : Nat) = ((ir + 1)) := by first | rfl | omega | (simp [pairsN, pairsR, sumN_s, Int32.not_lt, Int32.not_le, c_11_3, Nat.not_le.mpr c_11_3, c_23_9, Nat.not_lt.mpr c_23_9]; done) | (simp [pairsN, pairsR, sumN_s, Int32.not_lt, Int32.not_le, c_11_3, Nat.not_le.mpr c_11_3, c_23_9, Nat.not_lt.mpr c_23_9]; omega) | (revert c_11_3 c_23_9; simp +contextual [pairsN, pairsR, sumN_s, Int32.not_lt, Int32.not_le]; done) | (revert c_11_3 c_23_9; simp +contextual [pairsN, pairsR, sumN_s, Int32.not_lt, Int32.not_le]; omega)
      have hl4_14 : lv_has ls 4 [(0, .ref (a 0)), (1, .int (nI (sumN (ir + 1) (fun r => pairsR z r)))), (2, .int (nI (ir + 1)))] := lv_eqv (l1 := [(0, .ref (a 0)), (1, .int (nI (sumN ir (fun r => pairsR z r) + sumN (nS z ir) (fun w => if tk z ir w = true then people z ir w else 0)))), (2, .int (nI (ir + 1)))]) (lv_sub hl [1, 2, 0] rfl) (lv_ce rfl (lv_ce (congrArg (fun x => Value.int (nI x)) e4_12) (lv_ce (congrArg (fun x => Value.int (nI x)) e4_13) rfl)))
      exact ih4 _ (by omega) (hl4_14)
    · refine lv_iload_n hx hb dX5_pairs_26 rfl (lv_at hl 2 rfl) ?_
      refine lv_aload_n hx hb dX5_pairs_27 rfl (lv_at hl 0 rfl) ?_
      refine lv_iload_n hx hb dX5_pairs_28 rfl (lv_at hl 1 rfl) ?_
      refine lv_iload_n hx hb dX5_pairs_29 rfl (lv_at hl 3 rfl) ?_
      refine kr_V (As := [.int (nI ir), .int (nI iw)]) (rest := [.int (nI (sumN ir (fun r => pairsR z r) + sumN iw (fun w => if tk z ir w = true then people z ir w else 0)))]) (C := RX5) (own := RX5) ⟨hx, hb, hml, hown, hts⟩ (c_X5_isTaken l D cI cC cH cL a z zh tx pa wy st le th rd nu pt za ir iw (by first | assumption | omega)) (cwV 2 hts gX5_pairs_X5_isTaken rfl rfl rfl k_X5_isTaken ⟨Nat.le_of_ble_eq_true rfl, Nat.le_of_ble_eq_true rfl⟩) hP hK (va_recv (q := (RX5, TX5, 12)) hK hP (ci := 5) (q0 := 0) rfl rfl) rfl hl.1 rfl (Nat.le_of_ble_eq_true rfl) dX5_pairs_30 ⟨Nat.le_of_ble_eq_true rfl, Nat.le_of_ble_eq_true rfl⟩ ?_
      refine kx_if_eqb (tgt := 45) hx hb dX5_pairs_33 (by decide) (fun c_33_15 => ?_) (fun c_33_16 => ?_)
      · refine lv_iconst (v := nI 0) hx hb dX5_pairs_45 (by decide) ?_
        refine kx_iadd hx hb dX5_pairs_46 ?_
        refine lv_istore_n (lv' := [(1, .int (nI ((sumN ir (fun r => pairsR z r) + sumN iw (fun w => if tk z ir w = true then people z ir w else 0)) + 0))), (0, .ref (a 0)), (2, .int (nI ir)), (3, .int (nI iw))]) hx hb dX5_pairs_47 rfl hl (by decide) rfl (fun ls hl => ?_)
        refine lv_iinc (v := nI (iw + 1)) (lv' := [(3, .int (nI (iw + 1))), (1, .int (nI ((sumN ir (fun r => pairsR z r) + sumN iw (fun w => if tk z ir w = true then people z ir w else 0)) + 0))), (0, .ref (a 0)), (2, .int (nI ir))]) hx hb dX5_pairs_48 hl (k := 3) rfl (kx_inc 1) (by decide) rfl (fun ls hl => ?_)
        refine lv_goto (tgt := 16) hx hb dX5_pairs_51 (by decide) ?_
        have e16_17 : ((sumN ir (fun r => pairsR z r) + sumN iw (fun w => if tk z ir w = true then people z ir w else 0)) + 0 : Nat) = (sumN ir (fun r => pairsR z r) + sumN (iw + 1) (fun w => if tk z ir w = true then people z ir w else 0)) := by first | rfl | omega | (simp [pairsN, pairsR, sumN_s, Int32.not_lt, Int32.not_le, c_11_3, Nat.not_le.mpr c_11_3, c_23_10, Nat.not_le.mpr c_23_10, c_33_15]; done) | (simp [pairsN, pairsR, sumN_s, Int32.not_lt, Int32.not_le, c_11_3, Nat.not_le.mpr c_11_3, c_23_10, Nat.not_le.mpr c_23_10, c_33_15]; omega) | (revert c_11_3 c_23_10 c_33_15; simp +contextual [pairsN, pairsR, sumN_s, Int32.not_lt, Int32.not_le]; done) | (revert c_11_3 c_23_10 c_33_15; simp +contextual [pairsN, pairsR, sumN_s, Int32.not_lt, Int32.not_le]; omega)
        have e16_18 : (iw + 1 : Nat) = ((iw + 1)) := by first | rfl | omega | (simp [pairsN, pairsR, sumN_s, Int32.not_lt, Int32.not_le, c_11_3, Nat.not_le.mpr c_11_3, c_23_10, Nat.not_le.mpr c_23_10, c_33_15]; done) | (simp [pairsN, pairsR, sumN_s, Int32.not_lt, Int32.not_le, c_11_3, Nat.not_le.mpr c_11_3, c_23_10, Nat.not_le.mpr c_23_10, c_33_15]; omega) | (revert c_11_3 c_23_10 c_33_15; simp +contextual [pairsN, pairsR, sumN_s, Int32.not_lt, Int32.not_le]; done) | (revert c_11_3 c_23_10 c_33_15; simp +contextual [pairsN, pairsR, sumN_s, Int32.not_lt, Int32.not_le]; omega)
        have hl16_19 : lv_has ls 4 [(0, .ref (a 0)), (2, .int (nI ir)), (1, .int (nI (sumN ir (fun r => pairsR z r) + sumN (iw + 1) (fun w => if tk z ir w = true then people z ir w else 0)))), (3, .int (nI (iw + 1)))] := lv_eqv (l1 := [(0, .ref (a 0)), (2, .int (nI ir)), (1, .int (nI ((sumN ir (fun r => pairsR z r) + sumN iw (fun w => if tk z ir w = true then people z ir w else 0)) + 0))), (3, .int (nI (iw + 1)))]) (lv_sub hl [2, 3, 1, 0] rfl) (lv_ce rfl (lv_ce rfl (lv_ce (congrArg (fun x => Value.int (nI x)) e16_17) (lv_ce (congrArg (fun x => Value.int (nI x)) e16_18) rfl))))
        exact ih16 _ (by omega) (hl16_19)
      · refine lv_aload_n hx hb dX5_pairs_36 rfl (lv_at hl 0 rfl) ?_
        refine lv_iload_n hx hb dX5_pairs_37 rfl (lv_at hl 1 rfl) ?_
        refine lv_iload_n hx hb dX5_pairs_38 rfl (lv_at hl 3 rfl) ?_
        refine kr_V (As := [.int (nI ir), .int (nI iw)]) (rest := [.int (nI (sumN ir (fun r => pairsR z r) + sumN iw (fun w => if tk z ir w = true then people z ir w else 0)))]) (C := RX5) (own := RX5) ⟨hx, hb, hml, hown, hts⟩ (c_X5_peopleInWay l D cI cC cH cL a z zh tx pa wy st le th rd nu pt za ir iw (by first | assumption | omega) (by first | assumption | omega)) (cwV 2 hts gX5_pairs_X5_peopleInWay rfl rfl rfl k_X5_peopleInWay ⟨Nat.le_of_ble_eq_true rfl, Nat.le_of_ble_eq_true rfl⟩) hP hK (va_recv (q := (RX5, TX5, 12)) hK hP (ci := 5) (q0 := 0) rfl rfl) rfl hl.1 rfl (Nat.le_of_ble_eq_true rfl) dX5_pairs_39 ⟨Nat.le_of_ble_eq_true rfl, Nat.le_of_ble_eq_true rfl⟩ ?_
        refine lv_goto (tgt := 46) hx hb dX5_pairs_42 (by decide) ?_
        refine kx_iadd hx hb dX5_pairs_46 ?_
        refine lv_istore_n (lv' := [(1, .int (nI ((sumN ir (fun r => pairsR z r) + sumN iw (fun w => if tk z ir w = true then people z ir w else 0)) + (people z ir iw)))), (0, .ref (a 0)), (2, .int (nI ir)), (3, .int (nI iw))]) hx hb dX5_pairs_47 rfl hl (by decide) rfl (fun ls hl => ?_)
        refine lv_iinc (v := nI (iw + 1)) (lv' := [(3, .int (nI (iw + 1))), (1, .int (nI ((sumN ir (fun r => pairsR z r) + sumN iw (fun w => if tk z ir w = true then people z ir w else 0)) + (people z ir iw)))), (0, .ref (a 0)), (2, .int (nI ir))]) hx hb dX5_pairs_48 hl (k := 3) rfl (kx_inc 1) (by decide) rfl (fun ls hl => ?_)
        refine lv_goto (tgt := 16) hx hb dX5_pairs_51 (by decide) ?_
        have e16_20 : ((sumN ir (fun r => pairsR z r) + sumN iw (fun w => if tk z ir w = true then people z ir w else 0)) + (people z ir iw) : Nat) = (sumN ir (fun r => pairsR z r) + sumN (iw + 1) (fun w => if tk z ir w = true then people z ir w else 0)) := by first | rfl | omega | (simp [pairsN, pairsR, sumN_s, Int32.not_lt, Int32.not_le, c_11_3, Nat.not_le.mpr c_11_3, c_23_10, Nat.not_le.mpr c_23_10, c_33_16]; done) | (simp [pairsN, pairsR, sumN_s, Int32.not_lt, Int32.not_le, c_11_3, Nat.not_le.mpr c_11_3, c_23_10, Nat.not_le.mpr c_23_10, c_33_16]; omega) | (revert c_11_3 c_23_10 c_33_16; simp +contextual [pairsN, pairsR, sumN_s, Int32.not_lt, Int32.not_le]; done) | (revert c_11_3 c_23_10 c_33_16; simp +contextual [pairsN, pairsR, sumN_s, Int32.not_lt, Int32.not_le]; omega)
        have e16_21 : (iw + 1 : Nat) = ((iw + 1)) := by first | rfl | omega | (simp [pairsN, pairsR, sumN_s, Int32.not_lt, Int32.not_le, c_11_3, Nat.not_le.mpr c_11_3, c_23_10, Nat.not_le.mpr c_23_10, c_33_16]; done) | (simp [pairsN, pairsR, sumN_s, Int32.not_lt, Int32.not_le, c_11_3, Nat.not_le.mpr c_11_3, c_23_10, Nat.not_le.mpr c_23_10, c_33_16]; omega) | (revert c_11_3 c_23_10 c_33_16; simp +contextual [pairsN, pairsR, sumN_s, Int32.not_lt, Int32.not_le]; done) | (revert c_11_3 c_23_10 c_33_16; simp +contextual [pairsN, pairsR, sumN_s, Int32.not_lt, Int32.not_le]; omega)
        have hl16_22 : lv_has ls 4 [(0, .ref (a 0)), (2, .int (nI ir)), (1, .int (nI (sumN ir (fun r => pairsR z r) + sumN (iw + 1) (fun w => if tk z ir w = true then people z ir w else 0)))), (3, .int (nI (iw + 1)))] := lv_eqv (l1 := [(0, .ref (a 0)), (2, .int (nI ir)), (1, .int (nI ((sumN ir (fun r => pairsR z r) + sumN iw (fun w => if tk z ir w = true then people z ir w else 0)) + (people z ir iw)))), (3, .int (nI (iw + 1)))]) (lv_sub hl [2, 3, 1, 0] rfl) (lv_ce rfl (lv_ce rfl (lv_ce (congrArg (fun x => Value.int (nI x)) e16_20) (lv_ce (congrArg (fun x => Value.int (nI x)) e16_21) rfl))))
        exact ih16 _ (by omega) (hl16_22)
set_option maxRecDepth 20000 in
theorem iX5_longestFree_5 : ∀ w ∈ wsX50, w ∈ wsX5_longestFree := by decide +kernel
set_option maxHeartbeats 4000000 in
set_option maxRecDepth 100000 in
theorem c_X5_longestFree (l : Launch) (D : va_G) (cI cC cH cL : ClassId) (a : Nat → Nat) (z zh tx pa wy : ZZ) (st le th rd nu pt : Int32) (za : Int64)  (hw : WF z) : Met l yX5_longestFree wsX5_longestFree ({ frames := 2, cells := 0, slots := 0, locals := 44 }) (kp [.ref (a 0)] D (MW a cI z st zh le tx th pa rd nu pt wy za) (kT cI cC cH cL)) (kr (.returned (some (.int (lgI z))))) 0 0 (fun _ => False) := by
  refine Met.ofW (cc := cX5_longestFree) (maxL := 5) (ret := (some .int)) (by decide) rfl ?_
  intro p e s m args below meth c s₁ B hml hv
  obtain ⟨rfl, hP, hK⟩ := hv
  have hx := B.exec
  have hb := B.bytes
  have hrt := B.returns
  have hts := atoms_spec (ws := wsX5_longestFree) B.pre
  have hown : s.vm.findClass RX5 = some m.cls := findClass_of_methodNamed B.named
  have hlocks := B.notSynchronized
  have hl := lv_entry ([.ref (a 0)]) (n := 5) (Nat.le_of_ble_eq_true rfl)
  rw [lg_entry_eq]
  generalize (lg_sl ([.ref (a 0)]) ++ List.replicate (5 - (lg_sl ([.ref (a 0)])).length) Slot.unset).toArray = ls at hl ⊢
  have hl : lv_has ls 5 [(0, .ref (a 0))] := hl
  have hR10 := wf_R10 hw
  have hC4 := wf_C4 hw
  refine lv_iconst (v := nI 0) hx hb dX5_longestFree_0 (by decide) ?_
  refine lv_istore_n (lv' := [(1, .int (nI 0)), (0, .ref (a 0))]) hx hb dX5_longestFree_1 rfl hl (by decide) rfl (fun ls hl => ?_)
  refine lv_iconst (v := nI 0) hx hb dX5_longestFree_2 (by decide) ?_
  refine lv_istore_n (lv' := [(2, .int (nI 0)), (1, .int (nI 0)), (0, .ref (a 0))]) hx hb dX5_longestFree_3 rfl hl (by decide) rfl (fun ls hl => ?_)
  have e4_0 : (nI 0 : Int32) = (itN 0 (lgR z) (nI 0)) := by first | rfl | omega | (simp [lgI, lgR, lgS, itN_s, Int32.not_lt, Int32.not_le]; done) | (simp [lgI, lgR, lgS, itN_s, Int32.not_lt, Int32.not_le]; omega)
  have hl4_1 : lv_has ls 5 [(0, .ref (a 0)), (1, .int (itN 0 (lgR z) (nI 0))), (2, .int (nI 0))] := lv_eqv (l1 := [(0, .ref (a 0)), (1, .int (nI 0)), (2, .int (nI 0))]) (lv_sub hl [2, 1, 0] rfl) (lv_ce rfl (lv_ce (congrArg Value.int e4_0) (lv_ce rfl rfl)))
  refine kx_up (fun k ls => lv_has ls 5 [(0, .ref (a 0)), (1, .int (itN k (lgR z) (nI 0))), (2, .int (nI k))]) (0) (nR z) (by omega) ls (hl4_1) ?_
  intro ir ls hirl hirh hp ih4
  have hl := hp
  refine lv_iload_n hx hb dX5_longestFree_4 rfl (lv_at hl 2 rfl) ?_
  refine lv_aload_n hx hb dX5_longestFree_5 rfl (lv_at hl 0 rfl) ?_
  refine va_get (D := D) (ci := 5) (v := .ref (a 1)) (C := RX5) (T := TX5) (N := 12) hx hb hts iX5_longestFree_5 hown hK hP 0 rfl rfl 0 (by decide) (hts (.fieldLink RX5 7 "HallSightsModel" "z" "[I") (List.mem_of_getElem? (i := 1) rfl)) (fun _ h9 => h9) rfl dX5_longestFree_6 ?_
  refine lv_iconst (v := nI 3) hx hb dX5_longestFree_9 (by decide) ?_
  refine kx_iald hx hb hK hP 1 0 rfl rfl (by omega) (by decide) dX5_longestFree_10 ?_
  refine kx_top (wf_R hw) ?_
  refine kx_icmp_ge (tgt := 71) hx hb (by omega) (by omega) dX5_longestFree_11 (by decide) (fun c_11_2 => ?_) (fun c_11_3 => ?_)
  · have hq4 : nR z = ir := by omega
    subst hq4
    refine lv_iload_n hx hb dX5_longestFree_71 rfl (lv_at hl 1 rfl) ?_
    have e_5 : (itN (nR z) (lgR z) (nI 0) : Int32) = (lgI z) := by first | rfl | omega | (simp [lgI, lgR, lgS, itN_s, Int32.not_lt, Int32.not_le, c_11_2, Nat.not_lt.mpr c_11_2]; done) | (simp [lgI, lgR, lgS, itN_s, Int32.not_lt, Int32.not_le, c_11_2, Nat.not_lt.mpr c_11_2]; omega) | (revert c_11_2; simp +contextual [lgI, lgR, lgS, itN_s, Int32.not_lt, Int32.not_le]; done) | (revert c_11_2; simp +contextual [lgI, lgR, lgS, itN_s, Int32.not_lt, Int32.not_le]; omega)
    exact kr_iret hx hb hrt hlocks e_5 rfl dX5_longestFree_72
  · refine lv_iconst (v := nI 0) hx hb dX5_longestFree_14 (by decide) ?_
    refine lv_istore_n (lv' := [(3, .int (nI 0)), (0, .ref (a 0)), (1, .int (itN ir (lgR z) (nI 0))), (2, .int (nI ir))]) hx hb dX5_longestFree_15 rfl hl (by decide) rfl (fun ls hl => ?_)
    refine lv_iconst (v := nI 0) hx hb dX5_longestFree_16 (by decide) ?_
    refine lv_istore (lv' := [(4, .int (nI 0)), (3, .int (nI 0)), (0, .ref (a 0)), (1, .int (itN ir (lgR z) (nI 0))), (2, .int (nI ir))]) hx hb dX5_longestFree_17 hl (by decide) rfl (fun ls hl => ?_)
    have e19_6 : (itN ir (lgR z) (nI 0) : Int32) = ((itN 0 (lgS z ir) (nI 0, itN ir (lgR z) (nI 0))).2) := by first | rfl | omega | (simp [lgI, lgR, lgS, itN_s, Int32.not_lt, Int32.not_le, c_11_3, Nat.not_le.mpr c_11_3]; done) | (simp [lgI, lgR, lgS, itN_s, Int32.not_lt, Int32.not_le, c_11_3, Nat.not_le.mpr c_11_3]; omega) | (revert c_11_3; simp +contextual [lgI, lgR, lgS, itN_s, Int32.not_lt, Int32.not_le]; done) | (revert c_11_3; simp +contextual [lgI, lgR, lgS, itN_s, Int32.not_lt, Int32.not_le]; omega)
    have e19_7 : (nI 0 : Int32) = ((itN 0 (lgS z ir) (nI 0, itN ir (lgR z) (nI 0))).1) := by first | rfl | omega | (simp [lgI, lgR, lgS, itN_s, Int32.not_lt, Int32.not_le, c_11_3, Nat.not_le.mpr c_11_3]; done) | (simp [lgI, lgR, lgS, itN_s, Int32.not_lt, Int32.not_le, c_11_3, Nat.not_le.mpr c_11_3]; omega) | (revert c_11_3; simp +contextual [lgI, lgR, lgS, itN_s, Int32.not_lt, Int32.not_le]; done) | (revert c_11_3; simp +contextual [lgI, lgR, lgS, itN_s, Int32.not_lt, Int32.not_le]; omega)
    have hl19_8 : lv_has ls 5 [(0, .ref (a 0)), (2, .int (nI ir)), (1, .int ((itN 0 (lgS z ir) (nI 0, itN ir (lgR z) (nI 0))).2)), (3, .int ((itN 0 (lgS z ir) (nI 0, itN ir (lgR z) (nI 0))).1)), (4, .int (nI 0))] := lv_eqv (l1 := [(0, .ref (a 0)), (2, .int (nI ir)), (1, .int (itN ir (lgR z) (nI 0))), (3, .int (nI 0)), (4, .int (nI 0))]) (lv_sub hl [2, 4, 3, 1, 0] rfl) (lv_ce rfl (lv_ce rfl (lv_ce (congrArg Value.int e19_6) (lv_ce (congrArg Value.int e19_7) (lv_ce rfl rfl)))))
    refine kx_up (fun k ls => lv_has ls 5 [(0, .ref (a 0)), (2, .int (nI ir)), (1, .int ((itN k (lgS z ir) (nI 0, itN ir (lgR z) (nI 0))).2)), (3, .int ((itN k (lgS z ir) (nI 0, itN ir (lgR z) (nI 0))).1)), (4, .int (nI k))]) (0) (nS z ir) (by omega) ls (hl19_8) ?_
    intro iw ls hiwl hiwh hp ih19
    have hl := hp
    refine lv_iload hx hb dX5_longestFree_19 (lv_at hl 4 rfl) ?_
    refine lv_aload_n hx hb dX5_longestFree_21 rfl (lv_at hl 0 rfl) ?_
    refine lv_iload_n hx hb dX5_longestFree_22 rfl (lv_at hl 1 rfl) ?_
    refine lv_iconst (v := nI 2) hx hb dX5_longestFree_23 (by decide) ?_
    refine kr_V (As := [.int (nI ir), .int (nI 2)]) (rest := [.int (nI iw)]) (C := RX5) (own := RX5) ⟨hx, hb, hml, hown, hts⟩ (c_X5_of l D cI cC cH cL a z zh tx pa wy st le th rd nu pt za ir 2 (by first | assumption | omega)) (cwV 2 hts gX5_longestFree_X5_of rfl rfl rfl k_X5_of ⟨Nat.le_of_ble_eq_true rfl, Nat.le_of_ble_eq_true rfl⟩) hP hK (va_recv (q := (RX5, TX5, 12)) hK hP (ci := 5) (q0 := 0) rfl rfl) rfl hl.1 rfl (Nat.le_of_ble_eq_true rfl) dX5_longestFree_24 ⟨Nat.le_of_ble_eq_true rfl, Nat.le_of_ble_eq_true rfl⟩ ?_
    refine kx_top (wf_S hw (show (ir) < nR z by omega)) ?_
    have hS12_9 := wf_S12 hw (show (ir) < nR z by omega)
    refine kx_icmp_ge (tgt := 65) hx hb (by omega) (by omega) dX5_longestFree_27 (by decide) (fun c_27_10 => ?_) (fun c_27_11 => ?_)
    · have hq12 : nS z ir = iw := by omega
      subst hq12
      refine lv_iinc (v := nI (ir + 1)) (lv' := [(2, .int (nI (ir + 1))), (0, .ref (a 0)), (1, .int ((itN (nS z ir) (lgS z ir) (nI 0, itN ir (lgR z) (nI 0))).2)), (3, .int ((itN (nS z ir) (lgS z ir) (nI 0, itN ir (lgR z) (nI 0))).1)), (4, .int (nI (nS z ir)))]) hx hb dX5_longestFree_65 hl (k := 1) rfl (kx_inc 1) (by decide) rfl (fun ls hl => ?_)
      refine lv_goto (tgt := 4) hx hb dX5_longestFree_68 (by decide) ?_
      have e4_13 : ((itN (nS z ir) (lgS z ir) (nI 0, itN ir (lgR z) (nI 0))).2 : Int32) = (itN (ir + 1) (lgR z) (nI 0)) := by first | rfl | omega | (simp [lgI, lgR, lgS, itN_s, Int32.not_lt, Int32.not_le, c_11_3, Nat.not_le.mpr c_11_3, c_27_10, Nat.not_lt.mpr c_27_10]; done) | (simp [lgI, lgR, lgS, itN_s, Int32.not_lt, Int32.not_le, c_11_3, Nat.not_le.mpr c_11_3, c_27_10, Nat.not_lt.mpr c_27_10]; omega) | (revert c_11_3 c_27_10; simp +contextual [lgI, lgR, lgS, itN_s, Int32.not_lt, Int32.not_le]; done) | (revert c_11_3 c_27_10; simp +contextual [lgI, lgR, lgS, itN_s, Int32.not_lt, Int32.not_le]; omega)
      have e4_14 : (ir + 1 : Nat) = ((ir + 1)) := by first | rfl | omega | (simp [lgI, lgR, lgS, itN_s, Int32.not_lt, Int32.not_le, c_11_3, Nat.not_le.mpr c_11_3, c_27_10, Nat.not_lt.mpr c_27_10]; done) | (simp [lgI, lgR, lgS, itN_s, Int32.not_lt, Int32.not_le, c_11_3, Nat.not_le.mpr c_11_3, c_27_10, Nat.not_lt.mpr c_27_10]; omega) | (revert c_11_3 c_27_10; simp +contextual [lgI, lgR, lgS, itN_s, Int32.not_lt, Int32.not_le]; done) | (revert c_11_3 c_27_10; simp +contextual [lgI, lgR, lgS, itN_s, Int32.not_lt, Int32.not_le]; omega)
      have hl4_15 : lv_has ls 5 [(0, .ref (a 0)), (1, .int (itN (ir + 1) (lgR z) (nI 0))), (2, .int (nI (ir + 1)))] := lv_eqv (l1 := [(0, .ref (a 0)), (1, .int ((itN (nS z ir) (lgS z ir) (nI 0, itN ir (lgR z) (nI 0))).2)), (2, .int (nI (ir + 1)))]) (lv_sub hl [1, 2, 0] rfl) (lv_ce rfl (lv_ce (congrArg Value.int e4_13) (lv_ce (congrArg (fun x => Value.int (nI x)) e4_14) rfl)))
      exact ih4 _ (by omega) (hl4_15)
    · refine lv_aload_n hx hb dX5_longestFree_30 rfl (lv_at hl 0 rfl) ?_
      refine lv_iload_n hx hb dX5_longestFree_31 rfl (lv_at hl 1 rfl) ?_
      refine lv_iload hx hb dX5_longestFree_32 (lv_at hl 4 rfl) ?_
      refine kr_V (As := [.int (nI ir), .int (nI iw)]) (rest := []) (C := RX5) (own := RX5) ⟨hx, hb, hml, hown, hts⟩ (c_X5_isTaken l D cI cC cH cL a z zh tx pa wy st le th rd nu pt za ir iw (by first | assumption | omega)) (cwV 2 hts gX5_longestFree_X5_isTaken rfl rfl rfl k_X5_isTaken ⟨Nat.le_of_ble_eq_true rfl, Nat.le_of_ble_eq_true rfl⟩) hP hK (va_recv (q := (RX5, TX5, 12)) hK hP (ci := 5) (q0 := 0) rfl rfl) rfl hl.1 rfl (Nat.le_of_ble_eq_true rfl) dX5_longestFree_34 ⟨Nat.le_of_ble_eq_true rfl, Nat.le_of_ble_eq_true rfl⟩ ?_
      refine kx_if_eqb (tgt := 44) hx hb dX5_longestFree_37 (by decide) (fun c_37_16 => ?_) (fun c_37_17 => ?_)
      · refine lv_iload_n hx hb dX5_longestFree_44 rfl (lv_at hl 3 rfl) ?_
        refine lv_iconst (v := nI 1) hx hb dX5_longestFree_45 (by decide) ?_
        refine lv_iadd hx hb dX5_longestFree_46 ?_
        refine lv_istore_n (lv' := [(3, .int (((itN iw (lgS z ir) (nI 0, itN ir (lgR z) (nI 0))).1) + (nI 1))), (0, .ref (a 0)), (2, .int (nI ir)), (1, .int ((itN iw (lgS z ir) (nI 0, itN ir (lgR z) (nI 0))).2)), (4, .int (nI iw))]) hx hb dX5_longestFree_47 rfl hl (by decide) rfl (fun ls hl => ?_)
        refine lv_iload_n hx hb dX5_longestFree_48 rfl (lv_at hl 0 rfl) ?_
        refine lv_iload_n hx hb dX5_longestFree_49 rfl (lv_at hl 3 rfl) ?_
        refine lv_icmp_le (tgt := 57) hx hb dX5_longestFree_50 (by decide) (fun c_50_18 => ?_) (fun c_50_19 => ?_)
        · have c_50_18 : ((((itN iw (lgS z ir) (nI 0, itN ir (lgR z) (nI 0))).1) + (nI 1)) : Int32) ≤ ((itN iw (lgS z ir) (nI 0, itN ir (lgR z) (nI 0))).2) := c_50_18
          refine lv_iload_n hx hb dX5_longestFree_57 rfl (lv_at hl 3 rfl) ?_
          refine lv_istore_n (lv' := [(1, .int ((itN iw (lgS z ir) (nI 0, itN ir (lgR z) (nI 0))).2)), (3, .int (((itN iw (lgS z ir) (nI 0, itN ir (lgR z) (nI 0))).1) + (nI 1))), (0, .ref (a 0)), (2, .int (nI ir)), (4, .int (nI iw))]) hx hb dX5_longestFree_58 rfl hl (by decide) rfl (fun ls hl => ?_)
          refine lv_iinc (v := nI (iw + 1)) (lv' := [(4, .int (nI (iw + 1))), (1, .int ((itN iw (lgS z ir) (nI 0, itN ir (lgR z) (nI 0))).2)), (3, .int (((itN iw (lgS z ir) (nI 0, itN ir (lgR z) (nI 0))).1) + (nI 1))), (0, .ref (a 0)), (2, .int (nI ir))]) hx hb dX5_longestFree_59 hl (k := 4) rfl (kx_inc 1) (by decide) rfl (fun ls hl => ?_)
          refine lv_goto (tgt := 19) hx hb dX5_longestFree_62 (by decide) ?_
          have e19_20 : ((itN iw (lgS z ir) (nI 0, itN ir (lgR z) (nI 0))).2 : Int32) = ((itN (iw + 1) (lgS z ir) (nI 0, itN ir (lgR z) (nI 0))).2) := by first | rfl | omega | (simp [lgI, lgR, lgS, itN_s, Int32.not_lt, Int32.not_le, c_11_3, Nat.not_le.mpr c_11_3, c_27_11, Nat.not_le.mpr c_27_11, c_37_16, c_50_18, Int32.not_lt.mpr c_50_18]; done) | (simp [lgI, lgR, lgS, itN_s, Int32.not_lt, Int32.not_le, c_11_3, Nat.not_le.mpr c_11_3, c_27_11, Nat.not_le.mpr c_27_11, c_37_16, c_50_18, Int32.not_lt.mpr c_50_18]; omega) | (revert c_11_3 c_27_11 c_37_16 c_50_18; simp +contextual [lgI, lgR, lgS, itN_s, Int32.not_lt, Int32.not_le]; done) | (revert c_11_3 c_27_11 c_37_16 c_50_18; simp +contextual [lgI, lgR, lgS, itN_s, Int32.not_lt, Int32.not_le]; omega)
          have e19_21 : ((((itN iw (lgS z ir) (nI 0, itN ir (lgR z) (nI 0))).1) + (nI 1)) : Int32) = ((itN (iw + 1) (lgS z ir) (nI 0, itN ir (lgR z) (nI 0))).1) := by first | rfl | omega | (simp [lgI, lgR, lgS, itN_s, Int32.not_lt, Int32.not_le, c_11_3, Nat.not_le.mpr c_11_3, c_27_11, Nat.not_le.mpr c_27_11, c_37_16, c_50_18, Int32.not_lt.mpr c_50_18]; done) | (simp [lgI, lgR, lgS, itN_s, Int32.not_lt, Int32.not_le, c_11_3, Nat.not_le.mpr c_11_3, c_27_11, Nat.not_le.mpr c_27_11, c_37_16, c_50_18, Int32.not_lt.mpr c_50_18]; omega) | (revert c_11_3 c_27_11 c_37_16 c_50_18; simp +contextual [lgI, lgR, lgS, itN_s, Int32.not_lt, Int32.not_le]; done) | (revert c_11_3 c_27_11 c_37_16 c_50_18; simp +contextual [lgI, lgR, lgS, itN_s, Int32.not_lt, Int32.not_le]; omega)
          have e19_22 : (iw + 1 : Nat) = ((iw + 1)) := by first | rfl | omega | (simp [lgI, lgR, lgS, itN_s, Int32.not_lt, Int32.not_le, c_11_3, Nat.not_le.mpr c_11_3, c_27_11, Nat.not_le.mpr c_27_11, c_37_16, c_50_18, Int32.not_lt.mpr c_50_18]; done) | (simp [lgI, lgR, lgS, itN_s, Int32.not_lt, Int32.not_le, c_11_3, Nat.not_le.mpr c_11_3, c_27_11, Nat.not_le.mpr c_27_11, c_37_16, c_50_18, Int32.not_lt.mpr c_50_18]; omega) | (revert c_11_3 c_27_11 c_37_16 c_50_18; simp +contextual [lgI, lgR, lgS, itN_s, Int32.not_lt, Int32.not_le]; done) | (revert c_11_3 c_27_11 c_37_16 c_50_18; simp +contextual [lgI, lgR, lgS, itN_s, Int32.not_lt, Int32.not_le]; omega)
          have hl19_23 : lv_has ls 5 [(0, .ref (a 0)), (2, .int (nI ir)), (1, .int ((itN (iw + 1) (lgS z ir) (nI 0, itN ir (lgR z) (nI 0))).2)), (3, .int ((itN (iw + 1) (lgS z ir) (nI 0, itN ir (lgR z) (nI 0))).1)), (4, .int (nI (iw + 1)))] := lv_eqv (l1 := [(0, .ref (a 0)), (2, .int (nI ir)), (1, .int ((itN iw (lgS z ir) (nI 0, itN ir (lgR z) (nI 0))).2)), (3, .int (((itN iw (lgS z ir) (nI 0, itN ir (lgR z) (nI 0))).1) + (nI 1))), (4, .int (nI (iw + 1)))]) (lv_sub hl [3, 4, 1, 2, 0] rfl) (lv_ce rfl (lv_ce rfl (lv_ce (congrArg Value.int e19_20) (lv_ce (congrArg Value.int e19_21) (lv_ce (congrArg (fun x => Value.int (nI x)) e19_22) rfl)))))
          exact ih19 _ (by omega) (hl19_23)
        · have c_50_19 : ¬ ((((itN iw (lgS z ir) (nI 0, itN ir (lgR z) (nI 0))).1) + (nI 1)) : Int32) ≤ ((itN iw (lgS z ir) (nI 0, itN ir (lgR z) (nI 0))).2) := c_50_19
          refine lv_iload_n hx hb dX5_longestFree_53 rfl (lv_at hl 0 rfl) ?_
          refine lv_goto (tgt := 58) hx hb dX5_longestFree_54 (by decide) ?_
          refine lv_istore_n (lv' := [(1, .int (((itN iw (lgS z ir) (nI 0, itN ir (lgR z) (nI 0))).1) + (nI 1))), (3, .int (((itN iw (lgS z ir) (nI 0, itN ir (lgR z) (nI 0))).1) + (nI 1))), (0, .ref (a 0)), (2, .int (nI ir)), (4, .int (nI iw))]) hx hb dX5_longestFree_58 rfl hl (by decide) rfl (fun ls hl => ?_)
          refine lv_iinc (v := nI (iw + 1)) (lv' := [(4, .int (nI (iw + 1))), (1, .int (((itN iw (lgS z ir) (nI 0, itN ir (lgR z) (nI 0))).1) + (nI 1))), (3, .int (((itN iw (lgS z ir) (nI 0, itN ir (lgR z) (nI 0))).1) + (nI 1))), (0, .ref (a 0)), (2, .int (nI ir))]) hx hb dX5_longestFree_59 hl (k := 4) rfl (kx_inc 1) (by decide) rfl (fun ls hl => ?_)
          refine lv_goto (tgt := 19) hx hb dX5_longestFree_62 (by decide) ?_
          have e19_24 : ((((itN iw (lgS z ir) (nI 0, itN ir (lgR z) (nI 0))).1) + (nI 1)) : Int32) = ((itN (iw + 1) (lgS z ir) (nI 0, itN ir (lgR z) (nI 0))).2) := by first | rfl | omega | (simp [lgI, lgR, lgS, itN_s, Int32.not_lt, Int32.not_le, c_11_3, Nat.not_le.mpr c_11_3, c_27_11, Nat.not_le.mpr c_27_11, c_37_16, c_50_19, Int32.not_le.mp c_50_19]; done) | (simp [lgI, lgR, lgS, itN_s, Int32.not_lt, Int32.not_le, c_11_3, Nat.not_le.mpr c_11_3, c_27_11, Nat.not_le.mpr c_27_11, c_37_16, c_50_19, Int32.not_le.mp c_50_19]; omega) | (revert c_11_3 c_27_11 c_37_16 c_50_19; simp +contextual [lgI, lgR, lgS, itN_s, Int32.not_lt, Int32.not_le]; done) | (revert c_11_3 c_27_11 c_37_16 c_50_19; simp +contextual [lgI, lgR, lgS, itN_s, Int32.not_lt, Int32.not_le]; omega)
          have e19_25 : ((((itN iw (lgS z ir) (nI 0, itN ir (lgR z) (nI 0))).1) + (nI 1)) : Int32) = ((itN (iw + 1) (lgS z ir) (nI 0, itN ir (lgR z) (nI 0))).1) := by first | rfl | omega | (simp [lgI, lgR, lgS, itN_s, Int32.not_lt, Int32.not_le, c_11_3, Nat.not_le.mpr c_11_3, c_27_11, Nat.not_le.mpr c_27_11, c_37_16, c_50_19, Int32.not_le.mp c_50_19]; done) | (simp [lgI, lgR, lgS, itN_s, Int32.not_lt, Int32.not_le, c_11_3, Nat.not_le.mpr c_11_3, c_27_11, Nat.not_le.mpr c_27_11, c_37_16, c_50_19, Int32.not_le.mp c_50_19]; omega) | (revert c_11_3 c_27_11 c_37_16 c_50_19; simp +contextual [lgI, lgR, lgS, itN_s, Int32.not_lt, Int32.not_le]; done) | (revert c_11_3 c_27_11 c_37_16 c_50_19; simp +contextual [lgI, lgR, lgS, itN_s, Int32.not_lt, Int32.not_le]; omega)
          have e19_26 : (iw + 1 : Nat) = ((iw + 1)) := by first | rfl | omega | (simp [lgI, lgR, lgS, itN_s, Int32.not_lt, Int32.not_le, c_11_3, Nat.not_le.mpr c_11_3, c_27_11, Nat.not_le.mpr c_27_11, c_37_16, c_50_19, Int32.not_le.mp c_50_19]; done) | (simp [lgI, lgR, lgS, itN_s, Int32.not_lt, Int32.not_le, c_11_3, Nat.not_le.mpr c_11_3, c_27_11, Nat.not_le.mpr c_27_11, c_37_16, c_50_19, Int32.not_le.mp c_50_19]; omega) | (revert c_11_3 c_27_11 c_37_16 c_50_19; simp +contextual [lgI, lgR, lgS, itN_s, Int32.not_lt, Int32.not_le]; done) | (revert c_11_3 c_27_11 c_37_16 c_50_19; simp +contextual [lgI, lgR, lgS, itN_s, Int32.not_lt, Int32.not_le]; omega)
          have hl19_27 : lv_has ls 5 [(0, .ref (a 0)), (2, .int (nI ir)), (1, .int ((itN (iw + 1) (lgS z ir) (nI 0, itN ir (lgR z) (nI 0))).2)), (3, .int ((itN (iw + 1) (lgS z ir) (nI 0, itN ir (lgR z) (nI 0))).1)), (4, .int (nI (iw + 1)))] := lv_eqv (l1 := [(0, .ref (a 0)), (2, .int (nI ir)), (1, .int (((itN iw (lgS z ir) (nI 0, itN ir (lgR z) (nI 0))).1) + (nI 1))), (3, .int (((itN iw (lgS z ir) (nI 0, itN ir (lgR z) (nI 0))).1) + (nI 1))), (4, .int (nI (iw + 1)))]) (lv_sub hl [3, 4, 1, 2, 0] rfl) (lv_ce rfl (lv_ce rfl (lv_ce (congrArg Value.int e19_24) (lv_ce (congrArg Value.int e19_25) (lv_ce (congrArg (fun x => Value.int (nI x)) e19_26) rfl)))))
          exact ih19 _ (by omega) (hl19_27)
      · refine lv_iconst (v := nI 0) hx hb dX5_longestFree_40 (by decide) ?_
        refine lv_goto (tgt := 47) hx hb dX5_longestFree_41 (by decide) ?_
        refine lv_istore_n (lv' := [(3, .int (nI 0)), (0, .ref (a 0)), (2, .int (nI ir)), (1, .int ((itN iw (lgS z ir) (nI 0, itN ir (lgR z) (nI 0))).2)), (4, .int (nI iw))]) hx hb dX5_longestFree_47 rfl hl (by decide) rfl (fun ls hl => ?_)
        refine lv_iload_n hx hb dX5_longestFree_48 rfl (lv_at hl 0 rfl) ?_
        refine lv_iload_n hx hb dX5_longestFree_49 rfl (lv_at hl 3 rfl) ?_
        refine lv_icmp_le (tgt := 57) hx hb dX5_longestFree_50 (by decide) (fun c_50_28 => ?_) (fun c_50_29 => ?_)
        · have c_50_28 : ((nI 0) : Int32) ≤ ((itN iw (lgS z ir) (nI 0, itN ir (lgR z) (nI 0))).2) := c_50_28
          refine lv_iload_n hx hb dX5_longestFree_57 rfl (lv_at hl 3 rfl) ?_
          refine lv_istore_n (lv' := [(1, .int ((itN iw (lgS z ir) (nI 0, itN ir (lgR z) (nI 0))).2)), (3, .int (nI 0)), (0, .ref (a 0)), (2, .int (nI ir)), (4, .int (nI iw))]) hx hb dX5_longestFree_58 rfl hl (by decide) rfl (fun ls hl => ?_)
          refine lv_iinc (v := nI (iw + 1)) (lv' := [(4, .int (nI (iw + 1))), (1, .int ((itN iw (lgS z ir) (nI 0, itN ir (lgR z) (nI 0))).2)), (3, .int (nI 0)), (0, .ref (a 0)), (2, .int (nI ir))]) hx hb dX5_longestFree_59 hl (k := 4) rfl (kx_inc 1) (by decide) rfl (fun ls hl => ?_)
          refine lv_goto (tgt := 19) hx hb dX5_longestFree_62 (by decide) ?_
          have e19_30 : ((itN iw (lgS z ir) (nI 0, itN ir (lgR z) (nI 0))).2 : Int32) = ((itN (iw + 1) (lgS z ir) (nI 0, itN ir (lgR z) (nI 0))).2) := by first | rfl | omega | (simp [lgI, lgR, lgS, itN_s, Int32.not_lt, Int32.not_le, c_11_3, Nat.not_le.mpr c_11_3, c_27_11, Nat.not_le.mpr c_27_11, c_37_17, c_50_28, Int32.not_lt.mpr c_50_28]; done) | (simp [lgI, lgR, lgS, itN_s, Int32.not_lt, Int32.not_le, c_11_3, Nat.not_le.mpr c_11_3, c_27_11, Nat.not_le.mpr c_27_11, c_37_17, c_50_28, Int32.not_lt.mpr c_50_28]; omega) | (revert c_11_3 c_27_11 c_37_17 c_50_28; simp +contextual [lgI, lgR, lgS, itN_s, Int32.not_lt, Int32.not_le]; done) | (revert c_11_3 c_27_11 c_37_17 c_50_28; simp +contextual [lgI, lgR, lgS, itN_s, Int32.not_lt, Int32.not_le]; omega)
          have e19_31 : (nI 0 : Int32) = ((itN (iw + 1) (lgS z ir) (nI 0, itN ir (lgR z) (nI 0))).1) := by first | rfl | omega | (simp [lgI, lgR, lgS, itN_s, Int32.not_lt, Int32.not_le, c_11_3, Nat.not_le.mpr c_11_3, c_27_11, Nat.not_le.mpr c_27_11, c_37_17, c_50_28, Int32.not_lt.mpr c_50_28]; done) | (simp [lgI, lgR, lgS, itN_s, Int32.not_lt, Int32.not_le, c_11_3, Nat.not_le.mpr c_11_3, c_27_11, Nat.not_le.mpr c_27_11, c_37_17, c_50_28, Int32.not_lt.mpr c_50_28]; omega) | (revert c_11_3 c_27_11 c_37_17 c_50_28; simp +contextual [lgI, lgR, lgS, itN_s, Int32.not_lt, Int32.not_le]; done) | (revert c_11_3 c_27_11 c_37_17 c_50_28; simp +contextual [lgI, lgR, lgS, itN_s, Int32.not_lt, Int32.not_le]; omega)
          have e19_32 : (iw + 1 : Nat) = ((iw + 1)) := by first | rfl | omega | (simp [lgI, lgR, lgS, itN_s, Int32.not_lt, Int32.not_le, c_11_3, Nat.not_le.mpr c_11_3, c_27_11, Nat.not_le.mpr c_27_11, c_37_17, c_50_28, Int32.not_lt.mpr c_50_28]; done) | (simp [lgI, lgR, lgS, itN_s, Int32.not_lt, Int32.not_le, c_11_3, Nat.not_le.mpr c_11_3, c_27_11, Nat.not_le.mpr c_27_11, c_37_17, c_50_28, Int32.not_lt.mpr c_50_28]; omega) | (revert c_11_3 c_27_11 c_37_17 c_50_28; simp +contextual [lgI, lgR, lgS, itN_s, Int32.not_lt, Int32.not_le]; done) | (revert c_11_3 c_27_11 c_37_17 c_50_28; simp +contextual [lgI, lgR, lgS, itN_s, Int32.not_lt, Int32.not_le]; omega)
          have hl19_33 : lv_has ls 5 [(0, .ref (a 0)), (2, .int (nI ir)), (1, .int ((itN (iw + 1) (lgS z ir) (nI 0, itN ir (lgR z) (nI 0))).2)), (3, .int ((itN (iw + 1) (lgS z ir) (nI 0, itN ir (lgR z) (nI 0))).1)), (4, .int (nI (iw + 1)))] := lv_eqv (l1 := [(0, .ref (a 0)), (2, .int (nI ir)), (1, .int ((itN iw (lgS z ir) (nI 0, itN ir (lgR z) (nI 0))).2)), (3, .int (nI 0)), (4, .int (nI (iw + 1)))]) (lv_sub hl [3, 4, 1, 2, 0] rfl) (lv_ce rfl (lv_ce rfl (lv_ce (congrArg Value.int e19_30) (lv_ce (congrArg Value.int e19_31) (lv_ce (congrArg (fun x => Value.int (nI x)) e19_32) rfl)))))
          exact ih19 _ (by omega) (hl19_33)
        · have c_50_29 : ¬ ((nI 0) : Int32) ≤ ((itN iw (lgS z ir) (nI 0, itN ir (lgR z) (nI 0))).2) := c_50_29
          refine lv_iload_n hx hb dX5_longestFree_53 rfl (lv_at hl 0 rfl) ?_
          refine lv_goto (tgt := 58) hx hb dX5_longestFree_54 (by decide) ?_
          refine lv_istore_n (lv' := [(1, .int (nI 0)), (3, .int (nI 0)), (0, .ref (a 0)), (2, .int (nI ir)), (4, .int (nI iw))]) hx hb dX5_longestFree_58 rfl hl (by decide) rfl (fun ls hl => ?_)
          refine lv_iinc (v := nI (iw + 1)) (lv' := [(4, .int (nI (iw + 1))), (1, .int (nI 0)), (3, .int (nI 0)), (0, .ref (a 0)), (2, .int (nI ir))]) hx hb dX5_longestFree_59 hl (k := 4) rfl (kx_inc 1) (by decide) rfl (fun ls hl => ?_)
          refine lv_goto (tgt := 19) hx hb dX5_longestFree_62 (by decide) ?_
          have e19_34 : (nI 0 : Int32) = ((itN (iw + 1) (lgS z ir) (nI 0, itN ir (lgR z) (nI 0))).2) := by first | rfl | omega | (simp [lgI, lgR, lgS, itN_s, Int32.not_lt, Int32.not_le, c_11_3, Nat.not_le.mpr c_11_3, c_27_11, Nat.not_le.mpr c_27_11, c_37_17, c_50_29, Int32.not_le.mp c_50_29]; done) | (simp [lgI, lgR, lgS, itN_s, Int32.not_lt, Int32.not_le, c_11_3, Nat.not_le.mpr c_11_3, c_27_11, Nat.not_le.mpr c_27_11, c_37_17, c_50_29, Int32.not_le.mp c_50_29]; omega) | (revert c_11_3 c_27_11 c_37_17 c_50_29; simp +contextual [lgI, lgR, lgS, itN_s, Int32.not_lt, Int32.not_le]; done) | (revert c_11_3 c_27_11 c_37_17 c_50_29; simp +contextual [lgI, lgR, lgS, itN_s, Int32.not_lt, Int32.not_le]; omega)
          have e19_35 : (nI 0 : Int32) = ((itN (iw + 1) (lgS z ir) (nI 0, itN ir (lgR z) (nI 0))).1) := by first | rfl | omega | (simp [lgI, lgR, lgS, itN_s, Int32.not_lt, Int32.not_le, c_11_3, Nat.not_le.mpr c_11_3, c_27_11, Nat.not_le.mpr c_27_11, c_37_17, c_50_29, Int32.not_le.mp c_50_29]; done) | (simp [lgI, lgR, lgS, itN_s, Int32.not_lt, Int32.not_le, c_11_3, Nat.not_le.mpr c_11_3, c_27_11, Nat.not_le.mpr c_27_11, c_37_17, c_50_29, Int32.not_le.mp c_50_29]; omega) | (revert c_11_3 c_27_11 c_37_17 c_50_29; simp +contextual [lgI, lgR, lgS, itN_s, Int32.not_lt, Int32.not_le]; done) | (revert c_11_3 c_27_11 c_37_17 c_50_29; simp +contextual [lgI, lgR, lgS, itN_s, Int32.not_lt, Int32.not_le]; omega)
          have e19_36 : (iw + 1 : Nat) = ((iw + 1)) := by first | rfl | omega | (simp [lgI, lgR, lgS, itN_s, Int32.not_lt, Int32.not_le, c_11_3, Nat.not_le.mpr c_11_3, c_27_11, Nat.not_le.mpr c_27_11, c_37_17, c_50_29, Int32.not_le.mp c_50_29]; done) | (simp [lgI, lgR, lgS, itN_s, Int32.not_lt, Int32.not_le, c_11_3, Nat.not_le.mpr c_11_3, c_27_11, Nat.not_le.mpr c_27_11, c_37_17, c_50_29, Int32.not_le.mp c_50_29]; omega) | (revert c_11_3 c_27_11 c_37_17 c_50_29; simp +contextual [lgI, lgR, lgS, itN_s, Int32.not_lt, Int32.not_le]; done) | (revert c_11_3 c_27_11 c_37_17 c_50_29; simp +contextual [lgI, lgR, lgS, itN_s, Int32.not_lt, Int32.not_le]; omega)
          have hl19_37 : lv_has ls 5 [(0, .ref (a 0)), (2, .int (nI ir)), (1, .int ((itN (iw + 1) (lgS z ir) (nI 0, itN ir (lgR z) (nI 0))).2)), (3, .int ((itN (iw + 1) (lgS z ir) (nI 0, itN ir (lgR z) (nI 0))).1)), (4, .int (nI (iw + 1)))] := lv_eqv (l1 := [(0, .ref (a 0)), (2, .int (nI ir)), (1, .int (nI 0)), (3, .int (nI 0)), (4, .int (nI (iw + 1)))]) (lv_sub hl [3, 4, 1, 2, 0] rfl) (lv_ce rfl (lv_ce rfl (lv_ce (congrArg Value.int e19_34) (lv_ce (congrArg Value.int e19_35) (lv_ce (congrArg (fun x => Value.int (nI x)) e19_36) rfl)))))
          exact ih19 _ (by omega) (hl19_37)
set_option maxRecDepth 20000 in
theorem iX5_seeingWithout_5 : ∀ w ∈ wsX50, w ∈ wsX5_seeingWithout := by decide +kernel
set_option maxHeartbeats 4000000 in
set_option maxRecDepth 100000 in
theorem c_X5_seeingWithout (l : Launch) (D : va_G) (cI cC cH cL : ClassId) (a : Nat → Nat) (z zh tx pa wy : ZZ) (st le th rd nu pt : Int32) (za : Int64) (wo : Int32) (hw : WF z) : Met l yX5_seeingWithout wsX5_seeingWithout ({ frames := 4, cells := 0, slots := 0, locals := 96 }) (kp [.ref (a 0), .int wo] D (MW a cI z st zh le tx th pa rd nu pt wy za) (kT cI cC cH cL)) (kr (.returned (some (.int (nI (seeWo z wo)))))) 0 0 (fun _ => False) := by
  refine Met.ofW (cc := cX5_seeingWithout) (maxL := 5) (ret := (some .int)) (by decide) rfl ?_
  intro p e s m args below meth c s₁ B hml hv
  obtain ⟨rfl, hP, hK⟩ := hv
  have hx := B.exec
  have hb := B.bytes
  have hrt := B.returns
  have hts := atoms_spec (ws := wsX5_seeingWithout) B.pre
  have hown : s.vm.findClass RX5 = some m.cls := findClass_of_methodNamed B.named
  have hlocks := B.notSynchronized
  have hl := lv_entry ([.ref (a 0), .int wo]) (n := 5) (Nat.le_of_ble_eq_true rfl)
  rw [lg_entry_eq]
  generalize (lg_sl ([.ref (a 0), .int wo]) ++ List.replicate (5 - (lg_sl ([.ref (a 0), .int wo])).length) Slot.unset).toArray = ls at hl ⊢
  have hl : lv_has ls 5 [(0, .ref (a 0)), (1, .int wo)] := hl
  have hR10 := wf_R10 hw
  have hC4 := wf_C4 hw
  refine lv_iconst (v := nI 0) hx hb dX5_seeingWithout_0 (by decide) ?_
  refine lv_istore_n (lv' := [(2, .int (nI 0)), (0, .ref (a 0)), (1, .int wo)]) hx hb dX5_seeingWithout_1 rfl hl (by decide) rfl (fun ls hl => ?_)
  refine lv_iconst (v := nI 0) hx hb dX5_seeingWithout_2 (by decide) ?_
  refine lv_istore_n (lv' := [(3, .int (nI 0)), (2, .int (nI 0)), (0, .ref (a 0)), (1, .int wo)]) hx hb dX5_seeingWithout_3 rfl hl (by decide) rfl (fun ls hl => ?_)
  have e4_0 : (0 : Nat) = (sumN 0 (fun r => seeWoR z wo r)) := by first | rfl | omega | (simp [seeWo, seeWoR, sumN_s, b2, Int32.not_lt, Int32.not_le]; done) | (simp [seeWo, seeWoR, sumN_s, b2, Int32.not_lt, Int32.not_le]; omega)
  have hl4_1 : lv_has ls 5 [(0, .ref (a 0)), (1, .int wo), (2, .int (nI (sumN 0 (fun r => seeWoR z wo r)))), (3, .int (nI 0))] := lv_eqv (l1 := [(0, .ref (a 0)), (1, .int wo), (2, .int (nI 0)), (3, .int (nI 0))]) (lv_sub hl [2, 3, 1, 0] rfl) (lv_ce rfl (lv_ce rfl (lv_ce (congrArg (fun x => Value.int (nI x)) e4_0) (lv_ce rfl rfl))))
  refine kx_up (fun k ls => lv_has ls 5 [(0, .ref (a 0)), (1, .int wo), (2, .int (nI (sumN k (fun r => seeWoR z wo r)))), (3, .int (nI k))]) (0) (nR z) (by omega) ls (hl4_1) ?_
  intro ir ls hirl hirh hp ih4
  have hl := hp
  refine lv_iload_n hx hb dX5_seeingWithout_4 rfl (lv_at hl 3 rfl) ?_
  refine lv_aload_n hx hb dX5_seeingWithout_5 rfl (lv_at hl 0 rfl) ?_
  refine va_get (D := D) (ci := 5) (v := .ref (a 1)) (C := RX5) (T := TX5) (N := 12) hx hb hts iX5_seeingWithout_5 hown hK hP 0 rfl rfl 0 (by decide) (hts (.fieldLink RX5 7 "HallSightsModel" "z" "[I") (List.mem_of_getElem? (i := 1) rfl)) (fun _ h9 => h9) rfl dX5_seeingWithout_6 ?_
  refine lv_iconst (v := nI 3) hx hb dX5_seeingWithout_9 (by decide) ?_
  refine kx_iald hx hb hK hP 1 0 rfl rfl (by omega) (by decide) dX5_seeingWithout_10 ?_
  refine kx_top (wf_R hw) ?_
  refine kx_icmp_ge (tgt := 67) hx hb (by omega) (by omega) dX5_seeingWithout_11 (by decide) (fun c_11_2 => ?_) (fun c_11_3 => ?_)
  · have hq4 : nR z = ir := by omega
    subst hq4
    refine lv_iload_n hx hb dX5_seeingWithout_67 rfl (lv_at hl 2 rfl) ?_
    have e_5 : (sumN (nR z) (fun r => seeWoR z wo r) : Nat) = (seeWo z wo) := by first | rfl | omega | (simp [seeWo, seeWoR, sumN_s, b2, Int32.not_lt, Int32.not_le, c_11_2, Nat.not_lt.mpr c_11_2]; done) | (simp [seeWo, seeWoR, sumN_s, b2, Int32.not_lt, Int32.not_le, c_11_2, Nat.not_lt.mpr c_11_2]; omega) | (revert c_11_2; simp +contextual [seeWo, seeWoR, sumN_s, b2, Int32.not_lt, Int32.not_le]; done) | (revert c_11_2; simp +contextual [seeWo, seeWoR, sumN_s, b2, Int32.not_lt, Int32.not_le]; omega)
    exact kr_iret hx hb hrt hlocks (congrArg nI e_5) rfl dX5_seeingWithout_68
  · refine lv_iconst (v := nI 0) hx hb dX5_seeingWithout_14 (by decide) ?_
    refine lv_istore (lv' := [(4, .int (nI 0)), (0, .ref (a 0)), (1, .int wo), (2, .int (nI (sumN ir (fun r => seeWoR z wo r)))), (3, .int (nI ir))]) hx hb dX5_seeingWithout_15 hl (by decide) rfl (fun ls hl => ?_)
    have e17_6 : (sumN ir (fun r => seeWoR z wo r) : Nat) = (sumN ir (fun r => seeWoR z wo r) + sumN 0 (fun w => b2 (decide (people z ir w + colsW z ir w wo = 0)))) := by first | rfl | omega | (simp [seeWo, seeWoR, sumN_s, b2, Int32.not_lt, Int32.not_le, c_11_3, Nat.not_le.mpr c_11_3]; done) | (simp [seeWo, seeWoR, sumN_s, b2, Int32.not_lt, Int32.not_le, c_11_3, Nat.not_le.mpr c_11_3]; omega) | (revert c_11_3; simp +contextual [seeWo, seeWoR, sumN_s, b2, Int32.not_lt, Int32.not_le]; done) | (revert c_11_3; simp +contextual [seeWo, seeWoR, sumN_s, b2, Int32.not_lt, Int32.not_le]; omega)
    have hl17_7 : lv_has ls 5 [(0, .ref (a 0)), (1, .int wo), (3, .int (nI ir)), (2, .int (nI (sumN ir (fun r => seeWoR z wo r) + sumN 0 (fun w => b2 (decide (people z ir w + colsW z ir w wo = 0)))))), (4, .int (nI 0))] := lv_eqv (l1 := [(0, .ref (a 0)), (1, .int wo), (3, .int (nI ir)), (2, .int (nI (sumN ir (fun r => seeWoR z wo r)))), (4, .int (nI 0))]) (lv_sub hl [1, 2, 4, 3, 0] rfl) (lv_ce rfl (lv_ce rfl (lv_ce rfl (lv_ce (congrArg (fun x => Value.int (nI x)) e17_6) (lv_ce rfl rfl)))))
    refine kx_up (fun k ls => lv_has ls 5 [(0, .ref (a 0)), (1, .int wo), (3, .int (nI ir)), (2, .int (nI (sumN ir (fun r => seeWoR z wo r) + sumN k (fun w => b2 (decide (people z ir w + colsW z ir w wo = 0)))))), (4, .int (nI k))]) (0) (nS z ir) (by omega) ls (hl17_7) ?_
    intro iw ls hiwl hiwh hp ih17
    have hl := hp
    refine lv_iload hx hb dX5_seeingWithout_17 (lv_at hl 4 rfl) ?_
    refine lv_aload_n hx hb dX5_seeingWithout_19 rfl (lv_at hl 0 rfl) ?_
    refine lv_iload_n hx hb dX5_seeingWithout_20 rfl (lv_at hl 2 rfl) ?_
    refine lv_iconst (v := nI 2) hx hb dX5_seeingWithout_21 (by decide) ?_
    refine kr_V (As := [.int (nI ir), .int (nI 2)]) (rest := [.int (nI iw)]) (C := RX5) (own := RX5) ⟨hx, hb, hml, hown, hts⟩ (c_X5_of l D cI cC cH cL a z zh tx pa wy st le th rd nu pt za ir 2 (by first | assumption | omega)) (cwV 2 hts gX5_seeingWithout_X5_of rfl rfl rfl k_X5_of ⟨Nat.le_of_ble_eq_true rfl, Nat.le_of_ble_eq_true rfl⟩) hP hK (va_recv (q := (RX5, TX5, 12)) hK hP (ci := 5) (q0 := 0) rfl rfl) rfl hl.1 rfl (Nat.le_of_ble_eq_true rfl) dX5_seeingWithout_22 ⟨Nat.le_of_ble_eq_true rfl, Nat.le_of_ble_eq_true rfl⟩ ?_
    refine kx_top (wf_S hw (show (ir) < nR z by omega)) ?_
    have hS12_8 := wf_S12 hw (show (ir) < nR z by omega)
    refine kx_icmp_ge (tgt := 61) hx hb (by omega) (by omega) dX5_seeingWithout_25 (by decide) (fun c_25_9 => ?_) (fun c_25_10 => ?_)
    · have hq11 : nS z ir = iw := by omega
      subst hq11
      refine lv_iinc (v := nI (ir + 1)) (lv' := [(3, .int (nI (ir + 1))), (0, .ref (a 0)), (1, .int wo), (2, .int (nI (sumN ir (fun r => seeWoR z wo r) + sumN (nS z ir) (fun w => b2 (decide (people z ir w + colsW z ir w wo = 0)))))), (4, .int (nI (nS z ir)))]) hx hb dX5_seeingWithout_61 hl (k := 2) rfl (kx_inc 1) (by decide) rfl (fun ls hl => ?_)
      refine lv_goto (tgt := 4) hx hb dX5_seeingWithout_64 (by decide) ?_
      have e4_12 : (sumN ir (fun r => seeWoR z wo r) + sumN (nS z ir) (fun w => b2 (decide (people z ir w + colsW z ir w wo = 0))) : Nat) = (sumN (ir + 1) (fun r => seeWoR z wo r)) := by first | rfl | omega | (simp [seeWo, seeWoR, sumN_s, b2, Int32.not_lt, Int32.not_le, c_11_3, Nat.not_le.mpr c_11_3, c_25_9, Nat.not_lt.mpr c_25_9]; done) | (simp [seeWo, seeWoR, sumN_s, b2, Int32.not_lt, Int32.not_le, c_11_3, Nat.not_le.mpr c_11_3, c_25_9, Nat.not_lt.mpr c_25_9]; omega) | (revert c_11_3 c_25_9; simp +contextual [seeWo, seeWoR, sumN_s, b2, Int32.not_lt, Int32.not_le]; done) | (revert c_11_3 c_25_9; simp +contextual [seeWo, seeWoR, sumN_s, b2, Int32.not_lt, Int32.not_le]; omega)
      have e4_13 : (ir + 1 : Nat) = ((ir + 1)) := by first | rfl | omega | (simp [seeWo, seeWoR, sumN_s, b2, Int32.not_lt, Int32.not_le, c_11_3, Nat.not_le.mpr c_11_3, c_25_9, Nat.not_lt.mpr c_25_9]; done) | (simp [seeWo, seeWoR, sumN_s, b2, Int32.not_lt, Int32.not_le, c_11_3, Nat.not_le.mpr c_11_3, c_25_9, Nat.not_lt.mpr c_25_9]; omega) | (revert c_11_3 c_25_9; simp +contextual [seeWo, seeWoR, sumN_s, b2, Int32.not_lt, Int32.not_le]; done) | (revert c_11_3 c_25_9; simp +contextual [seeWo, seeWoR, sumN_s, b2, Int32.not_lt, Int32.not_le]; omega)
      have hl4_14 : lv_has ls 5 [(0, .ref (a 0)), (1, .int wo), (2, .int (nI (sumN (ir + 1) (fun r => seeWoR z wo r)))), (3, .int (nI (ir + 1)))] := lv_eqv (l1 := [(0, .ref (a 0)), (1, .int wo), (2, .int (nI (sumN ir (fun r => seeWoR z wo r) + sumN (nS z ir) (fun w => b2 (decide (people z ir w + colsW z ir w wo = 0)))))), (3, .int (nI (ir + 1)))]) (lv_sub hl [1, 2, 3, 0] rfl) (lv_ce rfl (lv_ce rfl (lv_ce (congrArg (fun x => Value.int (nI x)) e4_12) (lv_ce (congrArg (fun x => Value.int (nI x)) e4_13) rfl))))
      exact ih4 _ (by omega) (hl4_14)
    · refine lv_iload_n hx hb dX5_seeingWithout_28 rfl (lv_at hl 3 rfl) ?_
      refine lv_aload_n hx hb dX5_seeingWithout_29 rfl (lv_at hl 0 rfl) ?_
      refine lv_iload_n hx hb dX5_seeingWithout_30 rfl (lv_at hl 2 rfl) ?_
      refine lv_iload hx hb dX5_seeingWithout_31 (lv_at hl 4 rfl) ?_
      refine kr_V (As := [.int (nI ir), .int (nI iw)]) (rest := [.int (nI (sumN ir (fun r => seeWoR z wo r) + sumN iw (fun w => b2 (decide (people z ir w + colsW z ir w wo = 0)))))]) (C := RX5) (own := RX5) ⟨hx, hb, hml, hown, hts⟩ (c_X5_peopleInWay l D cI cC cH cL a z zh tx pa wy st le th rd nu pt za ir iw (by first | assumption | omega) (by first | assumption | omega)) (cwV 2 hts gX5_seeingWithout_X5_peopleInWay rfl rfl rfl k_X5_peopleInWay ⟨Nat.le_of_ble_eq_true rfl, Nat.le_of_ble_eq_true rfl⟩) hP hK (va_recv (q := (RX5, TX5, 12)) hK hP (ci := 5) (q0 := 0) rfl rfl) rfl hl.1 rfl (Nat.le_of_ble_eq_true rfl) dX5_seeingWithout_33 ⟨Nat.le_of_ble_eq_true rfl, Nat.le_of_ble_eq_true rfl⟩ ?_
      refine lv_aload_n hx hb dX5_seeingWithout_36 rfl (lv_at hl 0 rfl) ?_
      refine lv_iload_n hx hb dX5_seeingWithout_37 rfl (lv_at hl 2 rfl) ?_
      refine lv_iload hx hb dX5_seeingWithout_38 (lv_at hl 4 rfl) ?_
      refine lv_iload_n hx hb dX5_seeingWithout_40 rfl (lv_at hl 1 rfl) ?_
      refine kr_V (As := [.int (nI ir), .int (nI iw), .int wo]) (rest := [.int (nI (people z ir iw)), .int (nI (sumN ir (fun r => seeWoR z wo r) + sumN iw (fun w => b2 (decide (people z ir w + colsW z ir w wo = 0)))))]) (C := RX5) (own := RX5) ⟨hx, hb, hml, hown, hts⟩ (c_X5_columnsInWay l D cI cC cH cL a z zh tx pa wy st le th rd nu pt za ir iw wo (by first | assumption | omega) (by first | assumption | omega)) (cwV 3 hts gX5_seeingWithout_X5_columnsInWay rfl rfl rfl k_X5_columnsInWay ⟨Nat.le_of_ble_eq_true rfl, Nat.le_of_ble_eq_true rfl⟩) hP hK (va_recv (q := (RX5, TX5, 12)) hK hP (ci := 5) (q0 := 0) rfl rfl) rfl hl.1 rfl (Nat.le_of_ble_eq_true rfl) dX5_seeingWithout_41 ⟨Nat.le_of_ble_eq_true rfl, Nat.le_of_ble_eq_true rfl⟩ ?_
      refine kx_iadd hx hb dX5_seeingWithout_44 ?_
      have hb45 := people_b hw (show ir < nR z by omega) iw
      have hb46 := cols_b hw ir iw wo
      refine kx_if_ne (tgt := 52) hx hb (by omega) dX5_seeingWithout_45 (by decide) (fun c_45_15 => ?_) (fun c_45_16 => ?_)
      · refine lv_iconst (v := nI 0) hx hb dX5_seeingWithout_52 (by decide) ?_
        refine kx_iadd hx hb dX5_seeingWithout_53 ?_
        refine lv_istore_n (lv' := [(2, .int (nI ((sumN ir (fun r => seeWoR z wo r) + sumN iw (fun w => b2 (decide (people z ir w + colsW z ir w wo = 0)))) + 0))), (0, .ref (a 0)), (1, .int wo), (3, .int (nI ir)), (4, .int (nI iw))]) hx hb dX5_seeingWithout_54 rfl hl (by decide) rfl (fun ls hl => ?_)
        refine lv_iinc (v := nI (iw + 1)) (lv' := [(4, .int (nI (iw + 1))), (2, .int (nI ((sumN ir (fun r => seeWoR z wo r) + sumN iw (fun w => b2 (decide (people z ir w + colsW z ir w wo = 0)))) + 0))), (0, .ref (a 0)), (1, .int wo), (3, .int (nI ir))]) hx hb dX5_seeingWithout_55 hl (k := 4) rfl (kx_inc 1) (by decide) rfl (fun ls hl => ?_)
        refine lv_goto (tgt := 17) hx hb dX5_seeingWithout_58 (by decide) ?_
        have e17_17 : ((sumN ir (fun r => seeWoR z wo r) + sumN iw (fun w => b2 (decide (people z ir w + colsW z ir w wo = 0)))) + 0 : Nat) = (sumN ir (fun r => seeWoR z wo r) + sumN (iw + 1) (fun w => b2 (decide (people z ir w + colsW z ir w wo = 0)))) := by first | rfl | omega | (simp [seeWo, seeWoR, sumN_s, b2, Int32.not_lt, Int32.not_le, c_11_3, Nat.not_le.mpr c_11_3, c_25_10, Nat.not_le.mpr c_25_10, c_45_15, Nat.ne_of_gt c_45_15]; done) | (simp [seeWo, seeWoR, sumN_s, b2, Int32.not_lt, Int32.not_le, c_11_3, Nat.not_le.mpr c_11_3, c_25_10, Nat.not_le.mpr c_25_10, c_45_15, Nat.ne_of_gt c_45_15]; omega) | (revert c_11_3 c_25_10 c_45_15; simp +contextual [seeWo, seeWoR, sumN_s, b2, Int32.not_lt, Int32.not_le]; done) | (revert c_11_3 c_25_10 c_45_15; simp +contextual [seeWo, seeWoR, sumN_s, b2, Int32.not_lt, Int32.not_le]; omega)
        have e17_18 : (iw + 1 : Nat) = ((iw + 1)) := by first | rfl | omega | (simp [seeWo, seeWoR, sumN_s, b2, Int32.not_lt, Int32.not_le, c_11_3, Nat.not_le.mpr c_11_3, c_25_10, Nat.not_le.mpr c_25_10, c_45_15, Nat.ne_of_gt c_45_15]; done) | (simp [seeWo, seeWoR, sumN_s, b2, Int32.not_lt, Int32.not_le, c_11_3, Nat.not_le.mpr c_11_3, c_25_10, Nat.not_le.mpr c_25_10, c_45_15, Nat.ne_of_gt c_45_15]; omega) | (revert c_11_3 c_25_10 c_45_15; simp +contextual [seeWo, seeWoR, sumN_s, b2, Int32.not_lt, Int32.not_le]; done) | (revert c_11_3 c_25_10 c_45_15; simp +contextual [seeWo, seeWoR, sumN_s, b2, Int32.not_lt, Int32.not_le]; omega)
        have hl17_19 : lv_has ls 5 [(0, .ref (a 0)), (1, .int wo), (3, .int (nI ir)), (2, .int (nI (sumN ir (fun r => seeWoR z wo r) + sumN (iw + 1) (fun w => b2 (decide (people z ir w + colsW z ir w wo = 0)))))), (4, .int (nI (iw + 1)))] := lv_eqv (l1 := [(0, .ref (a 0)), (1, .int wo), (3, .int (nI ir)), (2, .int (nI ((sumN ir (fun r => seeWoR z wo r) + sumN iw (fun w => b2 (decide (people z ir w + colsW z ir w wo = 0)))) + 0))), (4, .int (nI (iw + 1)))]) (lv_sub hl [2, 3, 4, 1, 0] rfl) (lv_ce rfl (lv_ce rfl (lv_ce rfl (lv_ce (congrArg (fun x => Value.int (nI x)) e17_17) (lv_ce (congrArg (fun x => Value.int (nI x)) e17_18) rfl)))))
        exact ih17 _ (by omega) (hl17_19)
      · refine lv_iconst (v := nI 1) hx hb dX5_seeingWithout_48 (by decide) ?_
        refine lv_goto (tgt := 53) hx hb dX5_seeingWithout_49 (by decide) ?_
        refine kx_iadd hx hb dX5_seeingWithout_53 ?_
        refine lv_istore_n (lv' := [(2, .int (nI ((sumN ir (fun r => seeWoR z wo r) + sumN iw (fun w => b2 (decide (people z ir w + colsW z ir w wo = 0)))) + 1))), (0, .ref (a 0)), (1, .int wo), (3, .int (nI ir)), (4, .int (nI iw))]) hx hb dX5_seeingWithout_54 rfl hl (by decide) rfl (fun ls hl => ?_)
        refine lv_iinc (v := nI (iw + 1)) (lv' := [(4, .int (nI (iw + 1))), (2, .int (nI ((sumN ir (fun r => seeWoR z wo r) + sumN iw (fun w => b2 (decide (people z ir w + colsW z ir w wo = 0)))) + 1))), (0, .ref (a 0)), (1, .int wo), (3, .int (nI ir))]) hx hb dX5_seeingWithout_55 hl (k := 4) rfl (kx_inc 1) (by decide) rfl (fun ls hl => ?_)
        refine lv_goto (tgt := 17) hx hb dX5_seeingWithout_58 (by decide) ?_
        have e17_20 : ((sumN ir (fun r => seeWoR z wo r) + sumN iw (fun w => b2 (decide (people z ir w + colsW z ir w wo = 0)))) + 1 : Nat) = (sumN ir (fun r => seeWoR z wo r) + sumN (iw + 1) (fun w => b2 (decide (people z ir w + colsW z ir w wo = 0)))) := by first | rfl | omega | (simp [seeWo, seeWoR, sumN_s, b2, Int32.not_lt, Int32.not_le, c_11_3, Nat.not_le.mpr c_11_3, c_25_10, Nat.not_le.mpr c_25_10, c_45_16]; done) | (simp [seeWo, seeWoR, sumN_s, b2, Int32.not_lt, Int32.not_le, c_11_3, Nat.not_le.mpr c_11_3, c_25_10, Nat.not_le.mpr c_25_10, c_45_16]; omega) | (revert c_11_3 c_25_10 c_45_16; simp +contextual [seeWo, seeWoR, sumN_s, b2, Int32.not_lt, Int32.not_le]; done) | (revert c_11_3 c_25_10 c_45_16; simp +contextual [seeWo, seeWoR, sumN_s, b2, Int32.not_lt, Int32.not_le]; omega)
        have e17_21 : (iw + 1 : Nat) = ((iw + 1)) := by first | rfl | omega | (simp [seeWo, seeWoR, sumN_s, b2, Int32.not_lt, Int32.not_le, c_11_3, Nat.not_le.mpr c_11_3, c_25_10, Nat.not_le.mpr c_25_10, c_45_16]; done) | (simp [seeWo, seeWoR, sumN_s, b2, Int32.not_lt, Int32.not_le, c_11_3, Nat.not_le.mpr c_11_3, c_25_10, Nat.not_le.mpr c_25_10, c_45_16]; omega) | (revert c_11_3 c_25_10 c_45_16; simp +contextual [seeWo, seeWoR, sumN_s, b2, Int32.not_lt, Int32.not_le]; done) | (revert c_11_3 c_25_10 c_45_16; simp +contextual [seeWo, seeWoR, sumN_s, b2, Int32.not_lt, Int32.not_le]; omega)
        have hl17_22 : lv_has ls 5 [(0, .ref (a 0)), (1, .int wo), (3, .int (nI ir)), (2, .int (nI (sumN ir (fun r => seeWoR z wo r) + sumN (iw + 1) (fun w => b2 (decide (people z ir w + colsW z ir w wo = 0)))))), (4, .int (nI (iw + 1)))] := lv_eqv (l1 := [(0, .ref (a 0)), (1, .int wo), (3, .int (nI ir)), (2, .int (nI ((sumN ir (fun r => seeWoR z wo r) + sumN iw (fun w => b2 (decide (people z ir w + colsW z ir w wo = 0)))) + 1))), (4, .int (nI (iw + 1)))]) (lv_sub hl [2, 3, 4, 1, 0] rfl) (lv_ce rfl (lv_ce rfl (lv_ce rfl (lv_ce (congrArg (fun x => Value.int (nI x)) e17_20) (lv_ce (congrArg (fun x => Value.int (nI x)) e17_21) rfl)))))
        exact ih17 _ (by omega) (hl17_22)
set_option maxRecDepth 20000 in
theorem iX5_worstNow_5 : ∀ w ∈ wsX50, w ∈ wsX5_worstNow := by decide +kernel
set_option maxHeartbeats 4000000 in
set_option maxRecDepth 100000 in
theorem c_X5_worstNow (l : Launch) (D : va_G) (cI cC cH cL : ClassId) (a : Nat → Nat) (z zh tx pa wy : ZZ) (st le th rd nu pt : Int32) (za : Int64)  (hw : WF z) : Met l yX5_worstNow wsX5_worstNow ({ frames := 5, cells := 0, slots := 0, locals := 120 }) (kp [.ref (a 0)] D (MW a cI z st zh le tx th pa rd nu pt wy za) (kT cI cC cH cL)) (kr (.returned (some (.int (worstI z))))) 0 0 (fun _ => False) := by
  refine Met.ofW (cc := cX5_worstNow) (maxL := 5) (ret := (some .int)) (by decide) rfl ?_
  intro p e s m args below meth c s₁ B hml hv
  obtain ⟨rfl, hP, hK⟩ := hv
  have hx := B.exec
  have hb := B.bytes
  have hrt := B.returns
  have hts := atoms_spec (ws := wsX5_worstNow) B.pre
  have hown : s.vm.findClass RX5 = some m.cls := findClass_of_methodNamed B.named
  have hlocks := B.notSynchronized
  have hl := lv_entry ([.ref (a 0)]) (n := 5) (Nat.le_of_ble_eq_true rfl)
  rw [lg_entry_eq]
  generalize (lg_sl ([.ref (a 0)]) ++ List.replicate (5 - (lg_sl ([.ref (a 0)])).length) Slot.unset).toArray = ls at hl ⊢
  have hl : lv_has ls 5 [(0, .ref (a 0))] := hl
  have hR10 := wf_R10 hw
  have hC4 := wf_C4 hw
  refine lv_iconst (v := (-1)) hx hb dX5_worstNow_0 (by decide) ?_
  refine lv_istore_n (lv' := [(1, .int (-1)), (0, .ref (a 0))]) hx hb dX5_worstNow_1 rfl hl (by decide) rfl (fun ls hl => ?_)
  refine lv_iconst (v := (-1)) hx hb dX5_worstNow_2 (by decide) ?_
  refine lv_istore_n (lv' := [(2, .int (-1)), (1, .int (-1)), (0, .ref (a 0))]) hx hb dX5_worstNow_3 rfl hl (by decide) rfl (fun ls hl => ?_)
  refine lv_iconst (v := nI 0) hx hb dX5_worstNow_4 (by decide) ?_
  refine lv_istore_n (lv' := [(3, .int (nI 0)), (2, .int (-1)), (1, .int (-1)), (0, .ref (a 0))]) hx hb dX5_worstNow_5 rfl hl (by decide) rfl (fun ls hl => ?_)
  have e6_0 : ((-1) : Int32) = ((itN 0 (woS z) (-1, -1)).1) := by first | rfl | omega | (simp [worstI, woS, itN_s, Int32.not_lt, Int32.not_le]; done) | (simp [worstI, woS, itN_s, Int32.not_lt, Int32.not_le]; omega)
  have e6_1 : ((-1) : Int32) = ((itN 0 (woS z) (-1, -1)).2) := by first | rfl | omega | (simp [worstI, woS, itN_s, Int32.not_lt, Int32.not_le]; done) | (simp [worstI, woS, itN_s, Int32.not_lt, Int32.not_le]; omega)
  have hl6_2 : lv_has ls 5 [(0, .ref (a 0)), (1, .int ((itN 0 (woS z) (-1, -1)).1)), (2, .int ((itN 0 (woS z) (-1, -1)).2)), (3, .int (nI 0))] := lv_eqv (l1 := [(0, .ref (a 0)), (1, .int (-1)), (2, .int (-1)), (3, .int (nI 0))]) (lv_sub hl [3, 2, 1, 0] rfl) (lv_ce rfl (lv_ce (congrArg Value.int e6_0) (lv_ce (congrArg Value.int e6_1) (lv_ce rfl rfl))))
  refine kx_up (fun k ls => lv_has ls 5 [(0, .ref (a 0)), (1, .int ((itN k (woS z) (-1, -1)).1)), (2, .int ((itN k (woS z) (-1, -1)).2)), (3, .int (nI k))]) (0) (nC z) (by omega) ls (hl6_2) ?_
  intro ik ls hikl hikh hp ih6
  have hl := hp
  refine lv_iload_n hx hb dX5_worstNow_6 rfl (lv_at hl 3 rfl) ?_
  refine lv_aload_n hx hb dX5_worstNow_7 rfl (lv_at hl 0 rfl) ?_
  refine va_get (D := D) (ci := 5) (v := .ref (a 1)) (C := RX5) (T := TX5) (N := 12) hx hb hts iX5_worstNow_5 hown hK hP 0 rfl rfl 0 (by decide) (hts (.fieldLink RX5 7 "HallSightsModel" "z" "[I") (List.mem_of_getElem? (i := 1) rfl)) (fun _ h9 => h9) rfl dX5_worstNow_8 ?_
  refine lv_iconst (v := nI 4) hx hb dX5_worstNow_11 (by decide) ?_
  refine kx_iald hx hb hK hP 1 0 rfl rfl (by omega) (by decide) dX5_worstNow_12 ?_
  refine kx_top (wf_C hw) ?_
  refine kx_icmp_ge (tgt := 54) hx hb (by omega) (by omega) dX5_worstNow_13 (by decide) (fun c_13_3 => ?_) (fun c_13_4 => ?_)
  · have hq5 : nC z = ik := by omega
    subst hq5
    refine lv_iload_n hx hb dX5_worstNow_54 rfl (lv_at hl 1 rfl) ?_
    have e_6 : ((itN (nC z) (woS z) (-1, -1)).1 : Int32) = (worstI z) := by first | rfl | omega | (simp [worstI, woS, itN_s, Int32.not_lt, Int32.not_le, c_13_3, Nat.not_lt.mpr c_13_3]; done) | (simp [worstI, woS, itN_s, Int32.not_lt, Int32.not_le, c_13_3, Nat.not_lt.mpr c_13_3]; omega) | (revert c_13_3; simp +contextual [worstI, woS, itN_s, Int32.not_lt, Int32.not_le]; done) | (revert c_13_3; simp +contextual [worstI, woS, itN_s, Int32.not_lt, Int32.not_le]; omega)
    exact kr_iret hx hb hrt hlocks e_6 rfl dX5_worstNow_55
  · refine lv_aload_n hx hb dX5_worstNow_16 rfl (lv_at hl 0 rfl) ?_
    refine lv_iload_n hx hb dX5_worstNow_17 rfl (lv_at hl 3 rfl) ?_
    refine kr_V (As := [.int (nI ik)]) (rest := []) (C := RX5) (own := RX5) ⟨hx, hb, hml, hown, hts⟩ (c_X5_seeingWithout l D cI cC cH cL a z zh tx pa wy st le th rd nu pt za (nI ik) (by first | assumption | omega)) (cwV 1 hts gX5_worstNow_X5_seeingWithout rfl rfl rfl k_X5_seeingWithout ⟨Nat.le_of_ble_eq_true rfl, Nat.le_of_ble_eq_true rfl⟩) hP hK (va_recv (q := (RX5, TX5, 12)) hK hP (ci := 5) (q0 := 0) rfl rfl) rfl hl.1 rfl (Nat.le_of_ble_eq_true rfl) dX5_worstNow_18 ⟨Nat.le_of_ble_eq_true rfl, Nat.le_of_ble_eq_true rfl⟩ ?_
    refine lv_istore (lv' := [(4, .int (nI (seeWo z (nI ik)))), (0, .ref (a 0)), (1, .int ((itN ik (woS z) (-1, -1)).1)), (2, .int ((itN ik (woS z) (-1, -1)).2)), (3, .int (nI ik))]) hx hb dX5_worstNow_21 hl (by decide) rfl (fun ls hl => ?_)
    refine lv_iload hx hb dX5_worstNow_23 (lv_at hl 0 rfl) ?_
    refine lv_iload_n hx hb dX5_worstNow_25 rfl (lv_at hl 3 rfl) ?_
    refine lv_icmp_le (tgt := 33) hx hb dX5_worstNow_26 (by decide) (fun c_26_7 => ?_) (fun c_26_8 => ?_)
    · have c_26_7 : ((nI (seeWo z (nI ik))) : Int32) ≤ ((itN ik (woS z) (-1, -1)).2) := c_26_7
      refine lv_iload_n hx hb dX5_worstNow_33 rfl (lv_at hl 2 rfl) ?_
      refine lv_istore_n (lv' := [(1, .int ((itN ik (woS z) (-1, -1)).1)), (4, .int (nI (seeWo z (nI ik)))), (0, .ref (a 0)), (2, .int ((itN ik (woS z) (-1, -1)).2)), (3, .int (nI ik))]) hx hb dX5_worstNow_34 rfl hl (by decide) rfl (fun ls hl => ?_)
      refine lv_iload hx hb dX5_worstNow_35 (lv_at hl 1 rfl) ?_
      refine lv_iload_n hx hb dX5_worstNow_37 rfl (lv_at hl 3 rfl) ?_
      refine lv_icmp_le (tgt := 46) hx hb dX5_worstNow_38 (by decide) (fun c_38_9 => ?_) (fun c => absurd c_26_7 c)
      refine lv_iload_n hx hb dX5_worstNow_46 rfl (lv_at hl 3 rfl) ?_
      refine lv_istore_n (lv' := [(2, .int ((itN ik (woS z) (-1, -1)).2)), (1, .int ((itN ik (woS z) (-1, -1)).1)), (4, .int (nI (seeWo z (nI ik)))), (0, .ref (a 0)), (3, .int (nI ik))]) hx hb dX5_worstNow_47 rfl hl (by decide) rfl (fun ls hl => ?_)
      refine lv_iinc (v := nI (ik + 1)) (lv' := [(3, .int (nI (ik + 1))), (2, .int ((itN ik (woS z) (-1, -1)).2)), (1, .int ((itN ik (woS z) (-1, -1)).1)), (4, .int (nI (seeWo z (nI ik)))), (0, .ref (a 0))]) hx hb dX5_worstNow_48 hl (k := 4) rfl (kx_inc 1) (by decide) rfl (fun ls hl => ?_)
      refine lv_goto (tgt := 6) hx hb dX5_worstNow_51 (by decide) ?_
      have e6_10 : ((itN ik (woS z) (-1, -1)).1 : Int32) = ((itN (ik + 1) (woS z) (-1, -1)).1) := by first | rfl | omega | (simp [worstI, woS, itN_s, Int32.not_lt, Int32.not_le, c_13_4, Nat.not_le.mpr c_13_4, c_26_7, Int32.not_lt.mpr c_26_7]; done) | (simp [worstI, woS, itN_s, Int32.not_lt, Int32.not_le, c_13_4, Nat.not_le.mpr c_13_4, c_26_7, Int32.not_lt.mpr c_26_7]; omega) | (revert c_13_4 c_26_7; simp +contextual [worstI, woS, itN_s, Int32.not_lt, Int32.not_le]; done) | (revert c_13_4 c_26_7; simp +contextual [worstI, woS, itN_s, Int32.not_lt, Int32.not_le]; omega)
      have e6_11 : ((itN ik (woS z) (-1, -1)).2 : Int32) = ((itN (ik + 1) (woS z) (-1, -1)).2) := by first | rfl | omega | (simp [worstI, woS, itN_s, Int32.not_lt, Int32.not_le, c_13_4, Nat.not_le.mpr c_13_4, c_26_7, Int32.not_lt.mpr c_26_7]; done) | (simp [worstI, woS, itN_s, Int32.not_lt, Int32.not_le, c_13_4, Nat.not_le.mpr c_13_4, c_26_7, Int32.not_lt.mpr c_26_7]; omega) | (revert c_13_4 c_26_7; simp +contextual [worstI, woS, itN_s, Int32.not_lt, Int32.not_le]; done) | (revert c_13_4 c_26_7; simp +contextual [worstI, woS, itN_s, Int32.not_lt, Int32.not_le]; omega)
      have e6_12 : (ik + 1 : Nat) = ((ik + 1)) := by first | rfl | omega | (simp [worstI, woS, itN_s, Int32.not_lt, Int32.not_le, c_13_4, Nat.not_le.mpr c_13_4, c_26_7, Int32.not_lt.mpr c_26_7]; done) | (simp [worstI, woS, itN_s, Int32.not_lt, Int32.not_le, c_13_4, Nat.not_le.mpr c_13_4, c_26_7, Int32.not_lt.mpr c_26_7]; omega) | (revert c_13_4 c_26_7; simp +contextual [worstI, woS, itN_s, Int32.not_lt, Int32.not_le]; done) | (revert c_13_4 c_26_7; simp +contextual [worstI, woS, itN_s, Int32.not_lt, Int32.not_le]; omega)
      have hl6_13 : lv_has ls 5 [(0, .ref (a 0)), (1, .int ((itN (ik + 1) (woS z) (-1, -1)).1)), (2, .int ((itN (ik + 1) (woS z) (-1, -1)).2)), (3, .int (nI (ik + 1)))] := lv_eqv (l1 := [(0, .ref (a 0)), (1, .int ((itN ik (woS z) (-1, -1)).1)), (2, .int ((itN ik (woS z) (-1, -1)).2)), (3, .int (nI (ik + 1)))]) (lv_sub hl [4, 2, 1, 0] rfl) (lv_ce rfl (lv_ce (congrArg Value.int e6_10) (lv_ce (congrArg Value.int e6_11) (lv_ce (congrArg (fun x => Value.int (nI x)) e6_12) rfl))))
      exact ih6 _ (by omega) (hl6_13)
    · have c_26_8 : ¬ ((nI (seeWo z (nI ik))) : Int32) ≤ ((itN ik (woS z) (-1, -1)).2) := c_26_8
      refine lv_iload_n hx hb dX5_worstNow_29 rfl (lv_at hl 4 rfl) ?_
      refine lv_goto (tgt := 34) hx hb dX5_worstNow_30 (by decide) ?_
      refine lv_istore_n (lv' := [(1, .int (nI ik)), (4, .int (nI (seeWo z (nI ik)))), (0, .ref (a 0)), (2, .int ((itN ik (woS z) (-1, -1)).2)), (3, .int (nI ik))]) hx hb dX5_worstNow_34 rfl hl (by decide) rfl (fun ls hl => ?_)
      refine lv_iload hx hb dX5_worstNow_35 (lv_at hl 1 rfl) ?_
      refine lv_iload_n hx hb dX5_worstNow_37 rfl (lv_at hl 3 rfl) ?_
      refine lv_icmp_le (tgt := 46) hx hb dX5_worstNow_38 (by decide) (fun c => absurd c c_26_8) (fun c_38_14 => ?_)
      refine lv_iload hx hb dX5_worstNow_41 (lv_at hl 1 rfl) ?_
      refine lv_goto (tgt := 47) hx hb dX5_worstNow_43 (by decide) ?_
      refine lv_istore_n (lv' := [(2, .int (nI (seeWo z (nI ik)))), (1, .int (nI ik)), (4, .int (nI (seeWo z (nI ik)))), (0, .ref (a 0)), (3, .int (nI ik))]) hx hb dX5_worstNow_47 rfl hl (by decide) rfl (fun ls hl => ?_)
      refine lv_iinc (v := nI (ik + 1)) (lv' := [(3, .int (nI (ik + 1))), (2, .int (nI (seeWo z (nI ik)))), (1, .int (nI ik)), (4, .int (nI (seeWo z (nI ik)))), (0, .ref (a 0))]) hx hb dX5_worstNow_48 hl (k := 4) rfl (kx_inc 1) (by decide) rfl (fun ls hl => ?_)
      refine lv_goto (tgt := 6) hx hb dX5_worstNow_51 (by decide) ?_
      have e6_15 : (nI ik : Int32) = ((itN (ik + 1) (woS z) (-1, -1)).1) := by first | rfl | omega | (simp [worstI, woS, itN_s, Int32.not_lt, Int32.not_le, c_13_4, Nat.not_le.mpr c_13_4, c_26_8, Int32.not_le.mp c_26_8]; done) | (simp [worstI, woS, itN_s, Int32.not_lt, Int32.not_le, c_13_4, Nat.not_le.mpr c_13_4, c_26_8, Int32.not_le.mp c_26_8]; omega) | (revert c_13_4 c_26_8; simp +contextual [worstI, woS, itN_s, Int32.not_lt, Int32.not_le]; done) | (revert c_13_4 c_26_8; simp +contextual [worstI, woS, itN_s, Int32.not_lt, Int32.not_le]; omega)
      have e6_16 : (nI (seeWo z (nI ik)) : Int32) = ((itN (ik + 1) (woS z) (-1, -1)).2) := by first | rfl | omega | (simp [worstI, woS, itN_s, Int32.not_lt, Int32.not_le, c_13_4, Nat.not_le.mpr c_13_4, c_26_8, Int32.not_le.mp c_26_8]; done) | (simp [worstI, woS, itN_s, Int32.not_lt, Int32.not_le, c_13_4, Nat.not_le.mpr c_13_4, c_26_8, Int32.not_le.mp c_26_8]; omega) | (revert c_13_4 c_26_8; simp +contextual [worstI, woS, itN_s, Int32.not_lt, Int32.not_le]; done) | (revert c_13_4 c_26_8; simp +contextual [worstI, woS, itN_s, Int32.not_lt, Int32.not_le]; omega)
      have e6_17 : (ik + 1 : Nat) = ((ik + 1)) := by first | rfl | omega | (simp [worstI, woS, itN_s, Int32.not_lt, Int32.not_le, c_13_4, Nat.not_le.mpr c_13_4, c_26_8, Int32.not_le.mp c_26_8]; done) | (simp [worstI, woS, itN_s, Int32.not_lt, Int32.not_le, c_13_4, Nat.not_le.mpr c_13_4, c_26_8, Int32.not_le.mp c_26_8]; omega) | (revert c_13_4 c_26_8; simp +contextual [worstI, woS, itN_s, Int32.not_lt, Int32.not_le]; done) | (revert c_13_4 c_26_8; simp +contextual [worstI, woS, itN_s, Int32.not_lt, Int32.not_le]; omega)
      have hl6_18 : lv_has ls 5 [(0, .ref (a 0)), (1, .int ((itN (ik + 1) (woS z) (-1, -1)).1)), (2, .int ((itN (ik + 1) (woS z) (-1, -1)).2)), (3, .int (nI (ik + 1)))] := lv_eqv (l1 := [(0, .ref (a 0)), (1, .int (nI ik)), (2, .int (nI (seeWo z (nI ik)))), (3, .int (nI (ik + 1)))]) (lv_sub hl [4, 2, 1, 0] rfl) (lv_ce rfl (lv_ce (congrArg Value.int e6_15) (lv_ce (congrArg Value.int e6_16) (lv_ce (congrArg (fun x => Value.int (nI x)) e6_17) rfl))))
      exact ih6 _ (by omega) (hl6_18)
set_option maxHeartbeats 4000000 in
set_option maxRecDepth 100000 in
theorem c_X5_isSeat (l : Launch) (D : va_G) (cI cC cH cL : ClassId) (a : Nat → Nat) (z zh tx pa wy : ZZ) (st le th rd nu pt : Int32) (za : Int64) (ro : Int32) (se : Int32) (hw : WF z) : Met l yX5_isSeat wsX5_isSeat ({ frames := 2, cells := 0, slots := 0, locals := 43 }) (kp [.ref (a 0), .int ro, .int se] D (MW a cI z st zh le tx th pa rd nu pt wy za) (kT cI cC cH cL)) (kr (.returned (some (.int (bI (isSeatB z ro se)))))) 0 0 (fun _ => False) := by
  refine Met.ofW (cc := cX5_isSeat) (maxL := 3) (ret := (some .boolean)) (by decide) rfl ?_
  intro p e s m args below meth c s₁ B hml hv
  obtain ⟨rfl, hP, hK⟩ := hv
  have hx := B.exec
  have hb := B.bytes
  have hrt := B.returns
  have hts := atoms_spec (ws := wsX5_isSeat) B.pre
  have hown : s.vm.findClass RX5 = some m.cls := findClass_of_methodNamed B.named
  have hlocks := B.notSynchronized
  have hl := lv_entry ([.ref (a 0), .int ro, .int se]) (n := 3) (Nat.le_of_ble_eq_true rfl)
  rw [lg_entry_eq]
  generalize (lg_sl ([.ref (a 0), .int ro, .int se]) ++ List.replicate (3 - (lg_sl ([.ref (a 0), .int ro, .int se])).length) Slot.unset).toArray = ls at hl ⊢
  have hl : lv_has ls 3 [(0, .ref (a 0)), (1, .int ro), (2, .int se)] := hl
  have hR10 := wf_R10 hw
  have hC4 := wf_C4 hw
  refine lv_aload_n hx hb dX5_isSeat_0 rfl (lv_at hl 0 rfl) ?_
  refine lv_iload_n hx hb dX5_isSeat_1 rfl (lv_at hl 1 rfl) ?_
  refine kr_V (As := [.int ro]) (rest := []) (C := RX5) (own := RX5) ⟨hx, hb, hml, hown, hts⟩ (c_X5_isRow l D cI cC cH cL a z zh tx pa wy st le th rd nu pt za ro (by first | assumption | omega)) (cwV 1 hts gX5_isSeat_X5_isRow rfl rfl rfl k_X5_isRow ⟨Nat.le_of_ble_eq_true rfl, Nat.le_of_ble_eq_true rfl⟩) hP hK (va_recv (q := (RX5, TX5, 12)) hK hP (ci := 5) (q0 := 0) rfl rfl) rfl hl.1 rfl (Nat.le_of_ble_eq_true rfl) dX5_isSeat_2 ⟨Nat.le_of_ble_eq_true rfl, Nat.le_of_ble_eq_true rfl⟩ ?_
  refine kx_if_eqb (tgt := 28) hx hb dX5_isSeat_5 (by decide) (fun c_5_0 => ?_) (fun c_5_1 => ?_)
  · refine lv_iconst (v := nI 0) hx hb dX5_isSeat_28 (by decide) ?_
    have e_2 : (false : Bool) = (isSeatB z ro se) := by first | rfl | omega | (simp [isSeatB, Int32.not_lt, Int32.not_le, c_5_0]; done) | (simp [isSeatB, Int32.not_lt, Int32.not_le, c_5_0]; omega) | (revert c_5_0; simp +contextual [isSeatB, Int32.not_lt, Int32.not_le]; done) | (revert c_5_0; simp +contextual [isSeatB, Int32.not_lt, Int32.not_le]; omega)
    exact kr_zret hx hb hrt hlocks (congrArg bI e_2) rfl dX5_isSeat_29
  · obtain ⟨r0, hr0, rfl⟩ := isRow_out hw c_5_1
    have hcl0 := nI_clamp (show r0 < 2 ^ 31 by omega)
    refine lv_iload_n hx hb dX5_isSeat_8 rfl (lv_at hl 2 rfl) ?_
    refine lv_iconst (v := nI 0) hx hb dX5_isSeat_9 (by decide) ?_
    refine lv_aload_n hx hb dX5_isSeat_10 rfl (lv_at hl 0 rfl) ?_
    refine lv_iload_n hx hb dX5_isSeat_11 rfl (lv_at hl 1 rfl) ?_
    refine lv_iconst (v := nI 2) hx hb dX5_isSeat_12 (by decide) ?_
    refine kr_V (As := [.int (nI r0), .int (nI 2)]) (rest := [.int (nI 0), .int se]) (C := RX5) (own := RX5) ⟨hx, hb, hml, hown, hts⟩ (c_X5_of l D cI cC cH cL a z zh tx pa wy st le th rd nu pt za r0 2 (by first | assumption | omega)) (cwV 2 hts gX5_isSeat_X5_of rfl rfl rfl k_X5_of ⟨Nat.le_of_ble_eq_true rfl, Nat.le_of_ble_eq_true rfl⟩) hP hK (va_recv (q := (RX5, TX5, 12)) hK hP (ci := 5) (q0 := 0) rfl rfl) rfl hl.1 rfl (Nat.le_of_ble_eq_true rfl) dX5_isSeat_13 ⟨Nat.le_of_ble_eq_true rfl, Nat.le_of_ble_eq_true rfl⟩ ?_
    refine kx_top (wf_S hw (show (r0) < nR z by omega)) ?_
    have hS12_3 := wf_S12 hw (show (r0) < nR z by omega)
    refine lv_iconst (v := nI 1) hx hb dX5_isSeat_16 (by decide) ?_
    refine lv_isub hx hb dX5_isSeat_17 ?_
    refine kr_S (As := [.int se, .int (nI 0), .int ((nI (nS z (r0))) - (nI 1))]) (rest := []) (own := RX5) ⟨hx, hb, hml, hown, hts⟩ (c_X5_within l D cI cC cH cL  se (nI 0) ((nI (nS z (r0))) - (nI 1)) ) (va_cwS 3 hts gX5_isSeat_X5_within rfl rfl rfl k_X5_withinS ⟨Nat.le_of_ble_eq_true rfl, Nat.le_of_ble_eq_true rfl⟩) (hP.sub (ws' := []) [] rfl) hK rfl hl.1 rfl (Nat.le_of_ble_eq_true rfl) dX5_isSeat_18 ⟨Nat.le_of_ble_eq_true rfl, Nat.le_of_ble_eq_true rfl⟩ ?_
    refine kx_if_eqb (tgt := 28) hx hb dX5_isSeat_21 (by decide) (fun c_21_4 => ?_) (fun c_21_5 => ?_)
    · refine lv_iconst (v := nI 0) hx hb dX5_isSeat_28 (by decide) ?_
      have e_6 : (false : Bool) = (isSeatB z (nI r0) se) := by first | rfl | omega | (simp [isSeatB, Int32.not_lt, Int32.not_le, c_5_1, hcl0, c_21_4]; done) | (simp [isSeatB, Int32.not_lt, Int32.not_le, c_5_1, hcl0, c_21_4]; omega) | (revert c_5_1 hcl0 c_21_4; simp +contextual [isSeatB, Int32.not_lt, Int32.not_le]; done) | (revert c_5_1 hcl0 c_21_4; simp +contextual [isSeatB, Int32.not_lt, Int32.not_le]; omega)
      exact kr_zret hx hb hrt hlocks (congrArg bI e_6) rfl dX5_isSeat_29
    · refine lv_iconst (v := nI 1) hx hb dX5_isSeat_24 (by decide) ?_
      refine lv_goto (tgt := 29) hx hb dX5_isSeat_25 (by decide) ?_
      have e_7 : (true : Bool) = (isSeatB z (nI r0) se) := by first | rfl | omega | (simp [isSeatB, Int32.not_lt, Int32.not_le, c_5_1, hcl0, c_21_5]; done) | (simp [isSeatB, Int32.not_lt, Int32.not_le, c_5_1, hcl0, c_21_5]; omega) | (revert c_5_1 hcl0 c_21_5; simp +contextual [isSeatB, Int32.not_lt, Int32.not_le]; done) | (revert c_5_1 hcl0 c_21_5; simp +contextual [isSeatB, Int32.not_lt, Int32.not_le]; omega)
      exact kr_zret hx hb hrt hlocks (congrArg bI e_7) rfl dX5_isSeat_29
